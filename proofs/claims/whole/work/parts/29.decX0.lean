theorem dX0_init_0 : decode cX0_init 0 = .ok (.aload_n 0, 1) := by decide +kernel
theorem dX0_init_1 : decode cX0_init 1 = .ok (.invokespecial 3, 3) := by decide +kernel
theorem dX0_init_4 : decode cX0_init 4 = .ok (.aload_n 0, 1) := by decide +kernel
theorem dX0_init_5 : decode cX0_init 5 = .ok (.bipush 8, 2) := by decide +kernel
theorem dX0_init_7 : decode cX0_init 7 = .ok (.newarray .int, 2) := by decide +kernel
theorem dX0_init_9 : decode cX0_init 9 = .ok (.putfield 9, 3) := by decide +kernel
theorem dX0_init_12 : decode cX0_init 12 = .ok (.aload_n 0, 1) := by decide +kernel
theorem dX0_init_13 : decode cX0_init 13 = .ok (.iconst 4, 1) := by decide +kernel
theorem dX0_init_14 : decode cX0_init 14 = .ok (.anewarray 15, 3) := by decide +kernel
theorem dX0_init_17 : decode cX0_init 17 = .ok (.putfield 17, 3) := by decide +kernel
theorem dX0_init_20 : decode cX0_init 20 = .ok (.aload_n 0, 1) := by decide +kernel
theorem dX0_init_21 : decode cX0_init 21 = .ok (.bipush 8, 2) := by decide +kernel
theorem dX0_init_23 : decode cX0_init 23 = .ok (.anewarray 21, 3) := by decide +kernel
theorem dX0_init_26 : decode cX0_init 26 = .ok (.putfield 23, 3) := by decide +kernel
theorem dX0_init_29 : decode cX0_init 29 = .ok (.aload_n 0, 1) := by decide +kernel
theorem dX0_init_30 : decode cX0_init 30 = .ok (.iconst 4, 1) := by decide +kernel
theorem dX0_init_31 : decode cX0_init 31 = .ok (.putfield 27, 3) := by decide +kernel
theorem dX0_init_34 : decode cX0_init 34 = .ok (.aload_n 0, 1) := by decide +kernel
theorem dX0_init_35 : decode cX0_init 35 = .ok (.iconst 4, 1) := by decide +kernel
theorem dX0_init_36 : decode cX0_init 36 = .ok (.putfield 31, 3) := by decide +kernel
theorem dX0_init_39 : decode cX0_init 39 = .ok (.aload_n 0, 1) := by decide +kernel
theorem dX0_init_40 : decode cX0_init 40 = .ok (.iconst 1, 1) := by decide +kernel
theorem dX0_init_41 : decode cX0_init 41 = .ok (.putfield 34, 3) := by decide +kernel
theorem dX0_init_44 : decode cX0_init 44 = .ok (.aload_n 0, 1) := by decide +kernel
theorem dX0_init_45 : decode cX0_init 45 = .ok (.aload_n 1, 1) := by decide +kernel
theorem dX0_init_46 : decode cX0_init 46 = .ok (.putfield 37, 3) := by decide +kernel
theorem dX0_init_49 : decode cX0_init 49 = .ok (.aload_n 0, 1) := by decide +kernel
theorem dX0_init_50 : decode cX0_init 50 = .ok (.aload_n 2, 1) := by decide +kernel
theorem dX0_init_51 : decode cX0_init 51 = .ok (.putfield 41, 3) := by decide +kernel
theorem dX0_init_54 : decode cX0_init 54 = .ok (.iconst 0, 1) := by decide +kernel
theorem dX0_init_55 : decode cX0_init 55 = .ok (.istore_n 3, 1) := by decide +kernel
theorem dX0_init_56 : decode cX0_init 56 = .ok (.iload_n 3, 1) := by decide +kernel
theorem dX0_init_57 : decode cX0_init 57 = .ok (.iconst 4, 1) := by decide +kernel
theorem dX0_init_58 : decode cX0_init 58 = .ok (.if_icmp .ge 22, 3) := by decide +kernel
theorem dX0_init_61 : decode cX0_init 61 = .ok (.aload_n 0, 1) := by decide +kernel
theorem dX0_init_62 : decode cX0_init 62 = .ok (.getfield 17, 3) := by decide +kernel
theorem dX0_init_65 : decode cX0_init 65 = .ok (.iload_n 3, 1) := by decide +kernel
theorem dX0_init_66 : decode cX0_init 66 = .ok (.new 15, 3) := by decide +kernel
theorem dX0_init_69 : decode cX0_init 69 = .ok (.dup, 1) := by decide +kernel
theorem dX0_init_70 : decode cX0_init 70 = .ok (.invokespecial 44, 3) := by decide +kernel
theorem dX0_init_73 : decode cX0_init 73 = .ok (.aastore, 1) := by decide +kernel
theorem dX0_init_74 : decode cX0_init 74 = .ok (.iinc 3 1, 3) := by decide +kernel
theorem dX0_init_77 : decode cX0_init 77 = .ok (.goto (-21), 3) := by decide +kernel
theorem dX0_init_80 : decode cX0_init 80 = .ok (.iconst 0, 1) := by decide +kernel
theorem dX0_init_81 : decode cX0_init 81 = .ok (.istore_n 3, 1) := by decide +kernel
theorem dX0_init_82 : decode cX0_init 82 = .ok (.iload_n 3, 1) := by decide +kernel
theorem dX0_init_83 : decode cX0_init 83 = .ok (.bipush 8, 2) := by decide +kernel
theorem dX0_init_85 : decode cX0_init 85 = .ok (.if_icmp .ge 22, 3) := by decide +kernel
theorem dX0_init_88 : decode cX0_init 88 = .ok (.aload_n 0, 1) := by decide +kernel
theorem dX0_init_89 : decode cX0_init 89 = .ok (.getfield 23, 3) := by decide +kernel
theorem dX0_init_92 : decode cX0_init 92 = .ok (.iload_n 3, 1) := by decide +kernel
theorem dX0_init_93 : decode cX0_init 93 = .ok (.new 21, 3) := by decide +kernel
theorem dX0_init_96 : decode cX0_init 96 = .ok (.dup, 1) := by decide +kernel
theorem dX0_init_97 : decode cX0_init 97 = .ok (.invokespecial 45, 3) := by decide +kernel
theorem dX0_init_100 : decode cX0_init 100 = .ok (.aastore, 1) := by decide +kernel
theorem dX0_init_101 : decode cX0_init 101 = .ok (.iinc 3 1, 3) := by decide +kernel
theorem dX0_init_104 : decode cX0_init 104 = .ok (.goto (-22), 3) := by decide +kernel
theorem dX0_init_107 : decode cX0_init 107 = .ok (.return_, 1) := by decide +kernel
theorem dX0_copyFrom_0 : decode cX0_copyFrom 0 = .ok (.aload_n 1, 1) := by decide +kernel
theorem dX0_copyFrom_1 : decode cX0_copyFrom 1 = .ok (.getfield 9, 3) := by decide +kernel
theorem dX0_copyFrom_4 : decode cX0_copyFrom 4 = .ok (.iconst 0, 1) := by decide +kernel
theorem dX0_copyFrom_5 : decode cX0_copyFrom 5 = .ok (.aload_n 0, 1) := by decide +kernel
theorem dX0_copyFrom_6 : decode cX0_copyFrom 6 = .ok (.getfield 9, 3) := by decide +kernel
theorem dX0_copyFrom_9 : decode cX0_copyFrom 9 = .ok (.iconst 0, 1) := by decide +kernel
theorem dX0_copyFrom_10 : decode cX0_copyFrom 10 = .ok (.bipush 8, 2) := by decide +kernel
theorem dX0_copyFrom_12 : decode cX0_copyFrom 12 = .ok (.invokestatic 46, 3) := by decide +kernel
theorem dX0_copyFrom_15 : decode cX0_copyFrom 15 = .ok (.iconst 0, 1) := by decide +kernel
theorem dX0_copyFrom_16 : decode cX0_copyFrom 16 = .ok (.istore_n 2, 1) := by decide +kernel
theorem dX0_copyFrom_17 : decode cX0_copyFrom 17 = .ok (.iload_n 2, 1) := by decide +kernel
theorem dX0_copyFrom_18 : decode cX0_copyFrom 18 = .ok (.aload_n 1, 1) := by decide +kernel
theorem dX0_copyFrom_19 : decode cX0_copyFrom 19 = .ok (.getfield 52, 3) := by decide +kernel
theorem dX0_copyFrom_22 : decode cX0_copyFrom 22 = .ok (.if_icmp .ge 24, 3) := by decide +kernel
theorem dX0_copyFrom_25 : decode cX0_copyFrom 25 = .ok (.aload_n 0, 1) := by decide +kernel
theorem dX0_copyFrom_26 : decode cX0_copyFrom 26 = .ok (.getfield 17, 3) := by decide +kernel
theorem dX0_copyFrom_29 : decode cX0_copyFrom 29 = .ok (.iload_n 2, 1) := by decide +kernel
theorem dX0_copyFrom_30 : decode cX0_copyFrom 30 = .ok (.aaload, 1) := by decide +kernel
theorem dX0_copyFrom_31 : decode cX0_copyFrom 31 = .ok (.aload_n 1, 1) := by decide +kernel
theorem dX0_copyFrom_32 : decode cX0_copyFrom 32 = .ok (.getfield 17, 3) := by decide +kernel
theorem dX0_copyFrom_35 : decode cX0_copyFrom 35 = .ok (.iload_n 2, 1) := by decide +kernel
theorem dX0_copyFrom_36 : decode cX0_copyFrom 36 = .ok (.aaload, 1) := by decide +kernel
theorem dX0_copyFrom_37 : decode cX0_copyFrom 37 = .ok (.invokevirtual 55, 3) := by decide +kernel
theorem dX0_copyFrom_40 : decode cX0_copyFrom 40 = .ok (.iinc 2 1, 3) := by decide +kernel
theorem dX0_copyFrom_43 : decode cX0_copyFrom 43 = .ok (.goto (-26), 3) := by decide +kernel
theorem dX0_copyFrom_46 : decode cX0_copyFrom 46 = .ok (.iconst 0, 1) := by decide +kernel
theorem dX0_copyFrom_47 : decode cX0_copyFrom 47 = .ok (.istore_n 2, 1) := by decide +kernel
theorem dX0_copyFrom_48 : decode cX0_copyFrom 48 = .ok (.iload_n 2, 1) := by decide +kernel
theorem dX0_copyFrom_49 : decode cX0_copyFrom 49 = .ok (.aload_n 1, 1) := by decide +kernel
theorem dX0_copyFrom_50 : decode cX0_copyFrom 50 = .ok (.getfield 59, 3) := by decide +kernel
theorem dX0_copyFrom_53 : decode cX0_copyFrom 53 = .ok (.if_icmp .ge 24, 3) := by decide +kernel
theorem dX0_copyFrom_56 : decode cX0_copyFrom 56 = .ok (.aload_n 0, 1) := by decide +kernel
theorem dX0_copyFrom_57 : decode cX0_copyFrom 57 = .ok (.getfield 23, 3) := by decide +kernel
theorem dX0_copyFrom_60 : decode cX0_copyFrom 60 = .ok (.iload_n 2, 1) := by decide +kernel
theorem dX0_copyFrom_61 : decode cX0_copyFrom 61 = .ok (.aaload, 1) := by decide +kernel
theorem dX0_copyFrom_62 : decode cX0_copyFrom 62 = .ok (.aload_n 1, 1) := by decide +kernel
theorem dX0_copyFrom_63 : decode cX0_copyFrom 63 = .ok (.getfield 23, 3) := by decide +kernel
theorem dX0_copyFrom_66 : decode cX0_copyFrom 66 = .ok (.iload_n 2, 1) := by decide +kernel
theorem dX0_copyFrom_67 : decode cX0_copyFrom 67 = .ok (.aaload, 1) := by decide +kernel
theorem dX0_copyFrom_68 : decode cX0_copyFrom 68 = .ok (.invokevirtual 62, 3) := by decide +kernel
theorem dX0_copyFrom_71 : decode cX0_copyFrom 71 = .ok (.iinc 2 1, 3) := by decide +kernel
theorem dX0_copyFrom_74 : decode cX0_copyFrom 74 = .ok (.goto (-26), 3) := by decide +kernel
theorem dX0_copyFrom_77 : decode cX0_copyFrom 77 = .ok (.aload_n 0, 1) := by decide +kernel
theorem dX0_copyFrom_78 : decode cX0_copyFrom 78 = .ok (.aload_n 1, 1) := by decide +kernel
theorem dX0_copyFrom_79 : decode cX0_copyFrom 79 = .ok (.getfield 27, 3) := by decide +kernel
theorem dX0_copyFrom_82 : decode cX0_copyFrom 82 = .ok (.putfield 27, 3) := by decide +kernel
theorem dX0_copyFrom_85 : decode cX0_copyFrom 85 = .ok (.aload_n 0, 1) := by decide +kernel
theorem dX0_copyFrom_86 : decode cX0_copyFrom 86 = .ok (.aload_n 1, 1) := by decide +kernel
theorem dX0_copyFrom_87 : decode cX0_copyFrom 87 = .ok (.getfield 31, 3) := by decide +kernel
theorem dX0_copyFrom_90 : decode cX0_copyFrom 90 = .ok (.putfield 31, 3) := by decide +kernel
theorem dX0_copyFrom_93 : decode cX0_copyFrom 93 = .ok (.aload_n 0, 1) := by decide +kernel
theorem dX0_copyFrom_94 : decode cX0_copyFrom 94 = .ok (.aload_n 1, 1) := by decide +kernel
theorem dX0_copyFrom_95 : decode cX0_copyFrom 95 = .ok (.getfield 34, 3) := by decide +kernel
theorem dX0_copyFrom_98 : decode cX0_copyFrom 98 = .ok (.putfield 34, 3) := by decide +kernel
theorem dX0_copyFrom_101 : decode cX0_copyFrom 101 = .ok (.aload_n 0, 1) := by decide +kernel
theorem dX0_copyFrom_102 : decode cX0_copyFrom 102 = .ok (.aload_n 1, 1) := by decide +kernel
theorem dX0_copyFrom_103 : decode cX0_copyFrom 103 = .ok (.getfield 65, 3) := by decide +kernel
theorem dX0_copyFrom_106 : decode cX0_copyFrom 106 = .ok (.putfield 65, 3) := by decide +kernel
theorem dX0_copyFrom_109 : decode cX0_copyFrom 109 = .ok (.aload_n 0, 1) := by decide +kernel
theorem dX0_copyFrom_110 : decode cX0_copyFrom 110 = .ok (.aload_n 1, 1) := by decide +kernel
theorem dX0_copyFrom_111 : decode cX0_copyFrom 111 = .ok (.getfield 52, 3) := by decide +kernel
theorem dX0_copyFrom_114 : decode cX0_copyFrom 114 = .ok (.putfield 52, 3) := by decide +kernel
theorem dX0_copyFrom_117 : decode cX0_copyFrom 117 = .ok (.aload_n 0, 1) := by decide +kernel
theorem dX0_copyFrom_118 : decode cX0_copyFrom 118 = .ok (.aload_n 1, 1) := by decide +kernel
theorem dX0_copyFrom_119 : decode cX0_copyFrom 119 = .ok (.getfield 68, 3) := by decide +kernel
theorem dX0_copyFrom_122 : decode cX0_copyFrom 122 = .ok (.putfield 68, 3) := by decide +kernel
theorem dX0_copyFrom_125 : decode cX0_copyFrom 125 = .ok (.aload_n 0, 1) := by decide +kernel
theorem dX0_copyFrom_126 : decode cX0_copyFrom 126 = .ok (.aload_n 1, 1) := by decide +kernel
theorem dX0_copyFrom_127 : decode cX0_copyFrom 127 = .ok (.getfield 59, 3) := by decide +kernel
theorem dX0_copyFrom_130 : decode cX0_copyFrom 130 = .ok (.putfield 59, 3) := by decide +kernel
theorem dX0_copyFrom_133 : decode cX0_copyFrom 133 = .ok (.aload_n 0, 1) := by decide +kernel
theorem dX0_copyFrom_134 : decode cX0_copyFrom 134 = .ok (.aload_n 1, 1) := by decide +kernel
theorem dX0_copyFrom_135 : decode cX0_copyFrom 135 = .ok (.getfield 71, 3) := by decide +kernel
theorem dX0_copyFrom_138 : decode cX0_copyFrom 138 = .ok (.putfield 71, 3) := by decide +kernel
theorem dX0_copyFrom_141 : decode cX0_copyFrom 141 = .ok (.return_, 1) := by decide +kernel
theorem dX0_layRope_0 : decode cX0_layRope 0 = .ok (.aload_n 0, 1) := by decide +kernel
theorem dX0_layRope_1 : decode cX0_layRope 1 = .ok (.iload_n 1, 1) := by decide +kernel
theorem dX0_layRope_2 : decode cX0_layRope 2 = .ok (.putfield 27, 3) := by decide +kernel
theorem dX0_layRope_5 : decode cX0_layRope 5 = .ok (.iconst 0, 1) := by decide +kernel
theorem dX0_layRope_6 : decode cX0_layRope 6 = .ok (.istore_n 2, 1) := by decide +kernel
theorem dX0_layRope_7 : decode cX0_layRope 7 = .ok (.iload_n 2, 1) := by decide +kernel
theorem dX0_layRope_8 : decode cX0_layRope 8 = .ok (.bipush 8, 2) := by decide +kernel
theorem dX0_layRope_10 : decode cX0_layRope 10 = .ok (.if_icmp .ge 16, 3) := by decide +kernel
theorem dX0_layRope_13 : decode cX0_layRope 13 = .ok (.aload_n 0, 1) := by decide +kernel
theorem dX0_layRope_14 : decode cX0_layRope 14 = .ok (.getfield 9, 3) := by decide +kernel
theorem dX0_layRope_17 : decode cX0_layRope 17 = .ok (.iload_n 2, 1) := by decide +kernel
theorem dX0_layRope_18 : decode cX0_layRope 18 = .ok (.iconst 0, 1) := by decide +kernel
theorem dX0_layRope_19 : decode cX0_layRope 19 = .ok (.iastore, 1) := by decide +kernel
theorem dX0_layRope_20 : decode cX0_layRope 20 = .ok (.iinc 2 1, 3) := by decide +kernel
theorem dX0_layRope_23 : decode cX0_layRope 23 = .ok (.goto (-16), 3) := by decide +kernel
theorem dX0_layRope_26 : decode cX0_layRope 26 = .ok (.return_, 1) := by decide +kernel
theorem dX0_addTurner_0 : decode cX0_addTurner 0 = .ok (.aload_n 0, 1) := by decide +kernel
theorem dX0_addTurner_1 : decode cX0_addTurner 1 = .ok (.getfield 52, 3) := by decide +kernel
theorem dX0_addTurner_4 : decode cX0_addTurner 4 = .ok (.istore_n 2, 1) := by decide +kernel
theorem dX0_addTurner_5 : decode cX0_addTurner 5 = .ok (.aload_n 0, 1) := by decide +kernel
theorem dX0_addTurner_6 : decode cX0_addTurner 6 = .ok (.getfield 17, 3) := by decide +kernel
theorem dX0_addTurner_9 : decode cX0_addTurner 9 = .ok (.iload_n 2, 1) := by decide +kernel
theorem dX0_addTurner_10 : decode cX0_addTurner 10 = .ok (.aaload, 1) := by decide +kernel
theorem dX0_addTurner_11 : decode cX0_addTurner 11 = .ok (.iload_n 1, 1) := by decide +kernel
theorem dX0_addTurner_12 : decode cX0_addTurner 12 = .ok (.putfield 74, 3) := by decide +kernel
theorem dX0_addTurner_15 : decode cX0_addTurner 15 = .ok (.aload_n 0, 1) := by decide +kernel
theorem dX0_addTurner_16 : decode cX0_addTurner 16 = .ok (.getfield 17, 3) := by decide +kernel
theorem dX0_addTurner_19 : decode cX0_addTurner 19 = .ok (.iload_n 2, 1) := by decide +kernel
theorem dX0_addTurner_20 : decode cX0_addTurner 20 = .ok (.aaload, 1) := by decide +kernel
theorem dX0_addTurner_21 : decode cX0_addTurner 21 = .ok (.iconst 0, 1) := by decide +kernel
theorem dX0_addTurner_22 : decode cX0_addTurner 22 = .ok (.putfield 77, 3) := by decide +kernel
theorem dX0_addTurner_25 : decode cX0_addTurner 25 = .ok (.aload_n 0, 1) := by decide +kernel
theorem dX0_addTurner_26 : decode cX0_addTurner 26 = .ok (.dup, 1) := by decide +kernel
theorem dX0_addTurner_27 : decode cX0_addTurner 27 = .ok (.getfield 52, 3) := by decide +kernel
theorem dX0_addTurner_30 : decode cX0_addTurner 30 = .ok (.iconst 1, 1) := by decide +kernel
theorem dX0_addTurner_31 : decode cX0_addTurner 31 = .ok (.iadd, 1) := by decide +kernel
theorem dX0_addTurner_32 : decode cX0_addTurner 32 = .ok (.putfield 52, 3) := by decide +kernel
theorem dX0_addTurner_35 : decode cX0_addTurner 35 = .ok (.iload_n 2, 1) := by decide +kernel
theorem dX0_addTurner_36 : decode cX0_addTurner 36 = .ok (.ireturn, 1) := by decide +kernel
theorem dX0_addCrosser_0 : decode cX0_addCrosser 0 = .ok (.aload_n 0, 1) := by decide +kernel
theorem dX0_addCrosser_1 : decode cX0_addCrosser 1 = .ok (.getfield 59, 3) := by decide +kernel
theorem dX0_addCrosser_4 : decode cX0_addCrosser 4 = .ok (.istore 4, 2) := by decide +kernel
theorem dX0_addCrosser_6 : decode cX0_addCrosser 6 = .ok (.aload_n 0, 1) := by decide +kernel
theorem dX0_addCrosser_7 : decode cX0_addCrosser 7 = .ok (.getfield 23, 3) := by decide +kernel
theorem dX0_addCrosser_10 : decode cX0_addCrosser 10 = .ok (.iload 4, 2) := by decide +kernel
theorem dX0_addCrosser_12 : decode cX0_addCrosser 12 = .ok (.aaload, 1) := by decide +kernel
theorem dX0_addCrosser_13 : decode cX0_addCrosser 13 = .ok (.astore 5, 2) := by decide +kernel
theorem dX0_addCrosser_15 : decode cX0_addCrosser 15 = .ok (.aload 5, 2) := by decide +kernel
theorem dX0_addCrosser_17 : decode cX0_addCrosser 17 = .ok (.iload_n 1, 1) := by decide +kernel
theorem dX0_addCrosser_18 : decode cX0_addCrosser 18 = .ok (.invokevirtual 80, 3) := by decide +kernel
theorem dX0_addCrosser_21 : decode cX0_addCrosser 21 = .ok (.aload 5, 2) := by decide +kernel
theorem dX0_addCrosser_23 : decode cX0_addCrosser 23 = .ok (.iload_n 2, 1) := by decide +kernel
theorem dX0_addCrosser_24 : decode cX0_addCrosser 24 = .ok (.putfield 84, 3) := by decide +kernel
theorem dX0_addCrosser_27 : decode cX0_addCrosser 27 = .ok (.aload 5, 2) := by decide +kernel
theorem dX0_addCrosser_29 : decode cX0_addCrosser 29 = .ok (.iconst 0, 1) := by decide +kernel
theorem dX0_addCrosser_30 : decode cX0_addCrosser 30 = .ok (.putfield 87, 3) := by decide +kernel
theorem dX0_addCrosser_33 : decode cX0_addCrosser 33 = .ok (.aload 5, 2) := by decide +kernel
theorem dX0_addCrosser_35 : decode cX0_addCrosser 35 = .ok (.iload_n 3, 1) := by decide +kernel
theorem dX0_addCrosser_36 : decode cX0_addCrosser 36 = .ok (.putfield 90, 3) := by decide +kernel
theorem dX0_addCrosser_39 : decode cX0_addCrosser 39 = .ok (.aload 5, 2) := by decide +kernel
theorem dX0_addCrosser_41 : decode cX0_addCrosser 41 = .ok (.iconst 0, 1) := by decide +kernel
theorem dX0_addCrosser_42 : decode cX0_addCrosser 42 = .ok (.putfield 93, 3) := by decide +kernel
theorem dX0_addCrosser_45 : decode cX0_addCrosser 45 = .ok (.aload 5, 2) := by decide +kernel
theorem dX0_addCrosser_47 : decode cX0_addCrosser 47 = .ok (.iconst 0, 1) := by decide +kernel
theorem dX0_addCrosser_48 : decode cX0_addCrosser 48 = .ok (.putfield 96, 3) := by decide +kernel
theorem dX0_addCrosser_51 : decode cX0_addCrosser 51 = .ok (.aload_n 0, 1) := by decide +kernel
theorem dX0_addCrosser_52 : decode cX0_addCrosser 52 = .ok (.dup, 1) := by decide +kernel
theorem dX0_addCrosser_53 : decode cX0_addCrosser 53 = .ok (.getfield 59, 3) := by decide +kernel
theorem dX0_addCrosser_56 : decode cX0_addCrosser 56 = .ok (.iconst 1, 1) := by decide +kernel
theorem dX0_addCrosser_57 : decode cX0_addCrosser 57 = .ok (.iadd, 1) := by decide +kernel
theorem dX0_addCrosser_58 : decode cX0_addCrosser 58 = .ok (.putfield 59, 3) := by decide +kernel
theorem dX0_addCrosser_61 : decode cX0_addCrosser 61 = .ok (.iload 4, 2) := by decide +kernel
theorem dX0_addCrosser_63 : decode cX0_addCrosser 63 = .ok (.ireturn, 1) := by decide +kernel
theorem dX0_isGoing_0 : decode cX0_isGoing 0 = .ok (.aload_n 0, 1) := by decide +kernel
theorem dX0_isGoing_1 : decode cX0_isGoing 1 = .ok (.getfield 71, 3) := by decide +kernel
theorem dX0_isGoing_4 : decode cX0_isGoing 4 = .ok (.iload_n 1, 1) := by decide +kernel
theorem dX0_isGoing_5 : decode cX0_isGoing 5 = .ok (.ishr, 1) := by decide +kernel
theorem dX0_isGoing_6 : decode cX0_isGoing 6 = .ok (.iconst 1, 1) := by decide +kernel
theorem dX0_isGoing_7 : decode cX0_isGoing 7 = .ok (.iand, 1) := by decide +kernel
theorem dX0_isGoing_8 : decode cX0_isGoing 8 = .ok (.iconst 1, 1) := by decide +kernel
theorem dX0_isGoing_9 : decode cX0_isGoing 9 = .ok (.if_icmp .ne 7, 3) := by decide +kernel
theorem dX0_isGoing_12 : decode cX0_isGoing 12 = .ok (.iconst 1, 1) := by decide +kernel
theorem dX0_isGoing_13 : decode cX0_isGoing 13 = .ok (.goto 4, 3) := by decide +kernel
theorem dX0_isGoing_16 : decode cX0_isGoing 16 = .ok (.iconst 0, 1) := by decide +kernel
theorem dX0_isGoing_17 : decode cX0_isGoing 17 = .ok (.ireturn, 1) := by decide +kernel
theorem dX0_placeInRhyme_0 : decode cX0_placeInRhyme 0 = .ok (.aload_n 0, 1) := by decide +kernel
theorem dX0_placeInRhyme_1 : decode cX0_placeInRhyme 1 = .ok (.getfield 31, 3) := by decide +kernel
theorem dX0_placeInRhyme_4 : decode cX0_placeInRhyme 4 = .ok (.ifCond .le 15, 3) := by decide +kernel
theorem dX0_placeInRhyme_7 : decode cX0_placeInRhyme 7 = .ok (.aload_n 0, 1) := by decide +kernel
theorem dX0_placeInRhyme_8 : decode cX0_placeInRhyme 8 = .ok (.getfield 65, 3) := by decide +kernel
theorem dX0_placeInRhyme_11 : decode cX0_placeInRhyme 11 = .ok (.aload_n 0, 1) := by decide +kernel
theorem dX0_placeInRhyme_12 : decode cX0_placeInRhyme 12 = .ok (.getfield 31, 3) := by decide +kernel
theorem dX0_placeInRhyme_15 : decode cX0_placeInRhyme 15 = .ok (.irem, 1) := by decide +kernel
theorem dX0_placeInRhyme_16 : decode cX0_placeInRhyme 16 = .ok (.goto 4, 3) := by decide +kernel
theorem dX0_placeInRhyme_19 : decode cX0_placeInRhyme 19 = .ok (.iconst 0, 1) := by decide +kernel
theorem dX0_placeInRhyme_20 : decode cX0_placeInRhyme 20 = .ok (.ireturn, 1) := by decide +kernel
theorem dX0_isStanding_0 : decode cX0_isStanding 0 = .ok (.aload_n 0, 1) := by decide +kernel
theorem dX0_isStanding_1 : decode cX0_isStanding 1 = .ok (.getfield 52, 3) := by decide +kernel
theorem dX0_isStanding_4 : decode cX0_isStanding 4 = .ok (.ifCond .eq 18, 3) := by decide +kernel
theorem dX0_isStanding_7 : decode cX0_isStanding 7 = .ok (.aload_n 0, 1) := by decide +kernel
theorem dX0_isStanding_8 : decode cX0_isStanding 8 = .ok (.getfield 17, 3) := by decide +kernel
theorem dX0_isStanding_11 : decode cX0_isStanding 11 = .ok (.aload_n 0, 1) := by decide +kernel
theorem dX0_isStanding_12 : decode cX0_isStanding 12 = .ok (.getfield 68, 3) := by decide +kernel
theorem dX0_isStanding_15 : decode cX0_isStanding 15 = .ok (.aaload, 1) := by decide +kernel
theorem dX0_isStanding_16 : decode cX0_isStanding 16 = .ok (.invokevirtual 99, 3) := by decide +kernel
theorem dX0_isStanding_19 : decode cX0_isStanding 19 = .ok (.ifCond .gt 7, 3) := by decide +kernel
theorem dX0_isStanding_22 : decode cX0_isStanding 22 = .ok (.iconst 1, 1) := by decide +kernel
theorem dX0_isStanding_23 : decode cX0_isStanding 23 = .ok (.goto 4, 3) := by decide +kernel
theorem dX0_isStanding_26 : decode cX0_isStanding 26 = .ok (.iconst 0, 1) := by decide +kernel
theorem dX0_isStanding_27 : decode cX0_isStanding 27 = .ok (.ireturn, 1) := by decide +kernel
theorem dX0_needsOf_0 : decode cX0_needsOf 0 = .ok (.aload_n 1, 1) := by decide +kernel
theorem dX0_needsOf_1 : decode cX0_needsOf 1 = .ok (.aload_n 0, 1) := by decide +kernel
theorem dX0_needsOf_2 : decode cX0_needsOf 2 = .ok (.getfield 37, 3) := by decide +kernel
theorem dX0_needsOf_5 : decode cX0_needsOf 5 = .ok (.aload_n 1, 1) := by decide +kernel
theorem dX0_needsOf_6 : decode cX0_needsOf 6 = .ok (.getfield 84, 3) := by decide +kernel
theorem dX0_needsOf_9 : decode cX0_needsOf 9 = .ok (.aload_n 1, 1) := by decide +kernel
theorem dX0_needsOf_10 : decode cX0_needsOf 10 = .ok (.getfield 87, 3) := by decide +kernel
theorem dX0_needsOf_13 : decode cX0_needsOf 13 = .ok (.aload_n 0, 1) := by decide +kernel
theorem dX0_needsOf_14 : decode cX0_needsOf 14 = .ok (.getfield 31, 3) := by decide +kernel
theorem dX0_needsOf_17 : decode cX0_needsOf 17 = .ok (.invokevirtual 103, 3) := by decide +kernel
theorem dX0_needsOf_20 : decode cX0_needsOf 20 = .ok (.invokevirtual 109, 3) := by decide +kernel
theorem dX0_needsOf_23 : decode cX0_needsOf 23 = .ok (.ireturn, 1) := by decide +kernel
theorem dX0_setOf_0 : decode cX0_setOf 0 = .ok (.iconst 0, 1) := by decide +kernel
theorem dX0_setOf_1 : decode cX0_setOf 1 = .ok (.istore_n 2, 1) := by decide +kernel
theorem dX0_setOf_2 : decode cX0_setOf 2 = .ok (.iconst 0, 1) := by decide +kernel
theorem dX0_setOf_3 : decode cX0_setOf 3 = .ok (.istore_n 3, 1) := by decide +kernel
theorem dX0_setOf_4 : decode cX0_setOf 4 = .ok (.iload_n 3, 1) := by decide +kernel
theorem dX0_setOf_5 : decode cX0_setOf 5 = .ok (.aload_n 0, 1) := by decide +kernel
theorem dX0_setOf_6 : decode cX0_setOf 6 = .ok (.getfield 59, 3) := by decide +kernel
theorem dX0_setOf_9 : decode cX0_setOf 9 = .ok (.if_icmp .ge 28, 3) := by decide +kernel
theorem dX0_setOf_12 : decode cX0_setOf 12 = .ok (.aload_n 0, 1) := by decide +kernel
theorem dX0_setOf_13 : decode cX0_setOf 13 = .ok (.getfield 23, 3) := by decide +kernel
theorem dX0_setOf_16 : decode cX0_setOf 16 = .ok (.iload_n 3, 1) := by decide +kernel
theorem dX0_setOf_17 : decode cX0_setOf 17 = .ok (.aaload, 1) := by decide +kernel
theorem dX0_setOf_18 : decode cX0_setOf 18 = .ok (.getfield 93, 3) := by decide +kernel
theorem dX0_setOf_21 : decode cX0_setOf 21 = .ok (.iload_n 1, 1) := by decide +kernel
theorem dX0_setOf_22 : decode cX0_setOf 22 = .ok (.if_icmp .ne 9, 3) := by decide +kernel
theorem dX0_setOf_25 : decode cX0_setOf 25 = .ok (.iload_n 2, 1) := by decide +kernel
theorem dX0_setOf_26 : decode cX0_setOf 26 = .ok (.iconst 1, 1) := by decide +kernel
theorem dX0_setOf_27 : decode cX0_setOf 27 = .ok (.iload_n 3, 1) := by decide +kernel
theorem dX0_setOf_28 : decode cX0_setOf 28 = .ok (.ishl, 1) := by decide +kernel
theorem dX0_setOf_29 : decode cX0_setOf 29 = .ok (.ior, 1) := by decide +kernel
theorem dX0_setOf_30 : decode cX0_setOf 30 = .ok (.istore_n 2, 1) := by decide +kernel
theorem dX0_setOf_31 : decode cX0_setOf 31 = .ok (.iinc 3 1, 3) := by decide +kernel
theorem dX0_setOf_34 : decode cX0_setOf 34 = .ok (.goto (-30), 3) := by decide +kernel
theorem dX0_setOf_37 : decode cX0_setOf 37 = .ok (.iload_n 2, 1) := by decide +kernel
theorem dX0_setOf_38 : decode cX0_setOf 38 = .ok (.ireturn, 1) := by decide +kernel
theorem dX0_countOf_0 : decode cX0_countOf 0 = .ok (.aload_n 0, 1) := by decide +kernel
theorem dX0_countOf_1 : decode cX0_countOf 1 = .ok (.iload_n 1, 1) := by decide +kernel
theorem dX0_countOf_2 : decode cX0_countOf 2 = .ok (.invokevirtual 113, 3) := by decide +kernel
theorem dX0_countOf_5 : decode cX0_countOf 5 = .ok (.invokestatic 116, 3) := by decide +kernel
theorem dX0_countOf_8 : decode cX0_countOf 8 = .ok (.ireturn, 1) := by decide +kernel
theorem dX0_mostWear_0 : decode cX0_mostWear 0 = .ok (.iconst 0, 1) := by decide +kernel
theorem dX0_mostWear_1 : decode cX0_mostWear 1 = .ok (.istore_n 1, 1) := by decide +kernel
theorem dX0_mostWear_2 : decode cX0_mostWear 2 = .ok (.iconst 0, 1) := by decide +kernel
theorem dX0_mostWear_3 : decode cX0_mostWear 3 = .ok (.istore_n 2, 1) := by decide +kernel
theorem dX0_mostWear_4 : decode cX0_mostWear 4 = .ok (.iload_n 2, 1) := by decide +kernel
theorem dX0_mostWear_5 : decode cX0_mostWear 5 = .ok (.aload_n 0, 1) := by decide +kernel
theorem dX0_mostWear_6 : decode cX0_mostWear 6 = .ok (.getfield 27, 3) := by decide +kernel
theorem dX0_mostWear_9 : decode cX0_mostWear 9 = .ok (.if_icmp .ge 20, 3) := by decide +kernel
theorem dX0_mostWear_12 : decode cX0_mostWear 12 = .ok (.iload_n 1, 1) := by decide +kernel
theorem dX0_mostWear_13 : decode cX0_mostWear 13 = .ok (.aload_n 0, 1) := by decide +kernel
theorem dX0_mostWear_14 : decode cX0_mostWear 14 = .ok (.getfield 9, 3) := by decide +kernel
theorem dX0_mostWear_17 : decode cX0_mostWear 17 = .ok (.iload_n 2, 1) := by decide +kernel
theorem dX0_mostWear_18 : decode cX0_mostWear 18 = .ok (.iaload, 1) := by decide +kernel
theorem dX0_mostWear_19 : decode cX0_mostWear 19 = .ok (.invokestatic 121, 3) := by decide +kernel
theorem dX0_mostWear_22 : decode cX0_mostWear 22 = .ok (.istore_n 1, 1) := by decide +kernel
theorem dX0_mostWear_23 : decode cX0_mostWear 23 = .ok (.iinc 2 1, 3) := by decide +kernel
theorem dX0_mostWear_26 : decode cX0_mostWear 26 = .ok (.goto (-22), 3) := by decide +kernel
theorem dX0_mostWear_29 : decode cX0_mostWear 29 = .ok (.iload_n 1, 1) := by decide +kernel
theorem dX0_mostWear_30 : decode cX0_mostWear 30 = .ok (.ireturn, 1) := by decide +kernel
theorem dX0_turnFor_0 : decode cX0_turnFor 0 = .ok (.iconst 0, 1) := by decide +kernel
theorem dX0_turnFor_1 : decode cX0_turnFor 1 = .ok (.istore_n 2, 1) := by decide +kernel
theorem dX0_turnFor_2 : decode cX0_turnFor 2 = .ok (.iload_n 2, 1) := by decide +kernel
theorem dX0_turnFor_3 : decode cX0_turnFor 3 = .ok (.iload_n 1, 1) := by decide +kernel
theorem dX0_turnFor_4 : decode cX0_turnFor 4 = .ok (.if_icmp .ge 13, 3) := by decide +kernel
theorem dX0_turnFor_7 : decode cX0_turnFor 7 = .ok (.aload_n 0, 1) := by decide +kernel
theorem dX0_turnFor_8 : decode cX0_turnFor 8 = .ok (.invokevirtual 127, 3) := by decide +kernel
theorem dX0_turnFor_11 : decode cX0_turnFor 11 = .ok (.iinc 2 1, 3) := by decide +kernel
theorem dX0_turnFor_14 : decode cX0_turnFor 14 = .ok (.goto (-12), 3) := by decide +kernel
theorem dX0_turnFor_17 : decode cX0_turnFor 17 = .ok (.return_, 1) := by decide +kernel
theorem dX0_settleFor_0 : decode cX0_settleFor 0 = .ok (.iconst 0, 1) := by decide +kernel
theorem dX0_settleFor_1 : decode cX0_settleFor 1 = .ok (.istore_n 2, 1) := by decide +kernel
theorem dX0_settleFor_2 : decode cX0_settleFor 2 = .ok (.iload_n 2, 1) := by decide +kernel
theorem dX0_settleFor_3 : decode cX0_settleFor 3 = .ok (.iload_n 1, 1) := by decide +kernel
theorem dX0_settleFor_4 : decode cX0_settleFor 4 = .ok (.if_icmp .ge 20, 3) := by decide +kernel
theorem dX0_settleFor_7 : decode cX0_settleFor 7 = .ok (.aload_n 0, 1) := by decide +kernel
theorem dX0_settleFor_8 : decode cX0_settleFor 8 = .ok (.invokevirtual 130, 3) := by decide +kernel
theorem dX0_settleFor_11 : decode cX0_settleFor 11 = .ok (.ifCond .eq 13, 3) := by decide +kernel
theorem dX0_settleFor_14 : decode cX0_settleFor 14 = .ok (.aload_n 0, 1) := by decide +kernel
theorem dX0_settleFor_15 : decode cX0_settleFor 15 = .ok (.invokevirtual 127, 3) := by decide +kernel
theorem dX0_settleFor_18 : decode cX0_settleFor 18 = .ok (.iinc 2 1, 3) := by decide +kernel
theorem dX0_settleFor_21 : decode cX0_settleFor 21 = .ok (.goto (-19), 3) := by decide +kernel
theorem dX0_settleFor_24 : decode cX0_settleFor 24 = .ok (.return_, 1) := by decide +kernel
theorem dX0_isStirring_0 : decode cX0_isStirring 0 = .ok (.aload_n 0, 1) := by decide +kernel
theorem dX0_isStirring_1 : decode cX0_isStirring 1 = .ok (.iconst 1, 1) := by decide +kernel
theorem dX0_isStirring_2 : decode cX0_isStirring 2 = .ok (.invokevirtual 113, 3) := by decide +kernel
theorem dX0_isStirring_5 : decode cX0_isStirring 5 = .ok (.aload_n 0, 1) := by decide +kernel
theorem dX0_isStirring_6 : decode cX0_isStirring 6 = .ok (.iconst 0, 1) := by decide +kernel
theorem dX0_isStirring_7 : decode cX0_isStirring 7 = .ok (.invokevirtual 113, 3) := by decide +kernel
theorem dX0_isStirring_10 : decode cX0_isStirring 10 = .ok (.aload_n 0, 1) := by decide +kernel
theorem dX0_isStirring_11 : decode cX0_isStirring 11 = .ok (.getfield 71, 3) := by decide +kernel
theorem dX0_isStirring_14 : decode cX0_isStirring 14 = .ok (.iand, 1) := by decide +kernel
theorem dX0_isStirring_15 : decode cX0_isStirring 15 = .ok (.ior, 1) := by decide +kernel
theorem dX0_isStirring_16 : decode cX0_isStirring 16 = .ok (.ifCond .eq 7, 3) := by decide +kernel
theorem dX0_isStirring_19 : decode cX0_isStirring 19 = .ok (.iconst 1, 1) := by decide +kernel
theorem dX0_isStirring_20 : decode cX0_isStirring 20 = .ok (.goto 4, 3) := by decide +kernel
theorem dX0_isStirring_23 : decode cX0_isStirring 23 = .ok (.iconst 0, 1) := by decide +kernel
theorem dX0_isStirring_24 : decode cX0_isStirring 24 = .ok (.ireturn, 1) := by decide +kernel
theorem dX0_turnOnce_0 : decode cX0_turnOnce 0 = .ok (.aload_n 0, 1) := by decide +kernel
theorem dX0_turnOnce_1 : decode cX0_turnOnce 1 = .ok (.invokevirtual 134, 3) := by decide +kernel
theorem dX0_turnOnce_4 : decode cX0_turnOnce 4 = .ok (.ifCond .eq 10, 3) := by decide +kernel
theorem dX0_turnOnce_7 : decode cX0_turnOnce 7 = .ok (.aload_n 0, 1) := by decide +kernel
theorem dX0_turnOnce_8 : decode cX0_turnOnce 8 = .ok (.invokevirtual 137, 3) := by decide +kernel
theorem dX0_turnOnce_11 : decode cX0_turnOnce 11 = .ok (.goto 60, 3) := by decide +kernel
theorem dX0_turnOnce_14 : decode cX0_turnOnce 14 = .ok (.aload_n 0, 1) := by decide +kernel
theorem dX0_turnOnce_15 : decode cX0_turnOnce 15 = .ok (.invokevirtual 140, 3) := by decide +kernel
theorem dX0_turnOnce_18 : decode cX0_turnOnce 18 = .ok (.aload_n 0, 1) := by decide +kernel
theorem dX0_turnOnce_19 : decode cX0_turnOnce 19 = .ok (.getfield 34, 3) := by decide +kernel
theorem dX0_turnOnce_22 : decode cX0_turnOnce 22 = .ok (.aload_n 0, 1) := by decide +kernel
theorem dX0_turnOnce_23 : decode cX0_turnOnce 23 = .ok (.invokevirtual 143, 3) := by decide +kernel
theorem dX0_turnOnce_26 : decode cX0_turnOnce 26 = .ok (.ishr, 1) := by decide +kernel
theorem dX0_turnOnce_27 : decode cX0_turnOnce 27 = .ok (.iconst 1, 1) := by decide +kernel
theorem dX0_turnOnce_28 : decode cX0_turnOnce 28 = .ok (.iand, 1) := by decide +kernel
theorem dX0_turnOnce_29 : decode cX0_turnOnce 29 = .ok (.iconst 1, 1) := by decide +kernel
theorem dX0_turnOnce_30 : decode cX0_turnOnce 30 = .ok (.if_icmp .ne 7, 3) := by decide +kernel
theorem dX0_turnOnce_33 : decode cX0_turnOnce 33 = .ok (.iconst 1, 1) := by decide +kernel
theorem dX0_turnOnce_34 : decode cX0_turnOnce 34 = .ok (.goto 4, 3) := by decide +kernel
theorem dX0_turnOnce_37 : decode cX0_turnOnce 37 = .ok (.iconst 0, 1) := by decide +kernel
theorem dX0_turnOnce_38 : decode cX0_turnOnce 38 = .ok (.istore_n 1, 1) := by decide +kernel
theorem dX0_turnOnce_39 : decode cX0_turnOnce 39 = .ok (.iconst 0, 1) := by decide +kernel
theorem dX0_turnOnce_40 : decode cX0_turnOnce 40 = .ok (.istore_n 2, 1) := by decide +kernel
theorem dX0_turnOnce_41 : decode cX0_turnOnce 41 = .ok (.iload_n 2, 1) := by decide +kernel
theorem dX0_turnOnce_42 : decode cX0_turnOnce 42 = .ok (.aload_n 0, 1) := by decide +kernel
theorem dX0_turnOnce_43 : decode cX0_turnOnce 43 = .ok (.getfield 59, 3) := by decide +kernel
theorem dX0_turnOnce_46 : decode cX0_turnOnce 46 = .ok (.if_icmp .ge 25, 3) := by decide +kernel
theorem dX0_turnOnce_49 : decode cX0_turnOnce 49 = .ok (.aload_n 0, 1) := by decide +kernel
theorem dX0_turnOnce_50 : decode cX0_turnOnce 50 = .ok (.aload_n 0, 1) := by decide +kernel
theorem dX0_turnOnce_51 : decode cX0_turnOnce 51 = .ok (.getfield 23, 3) := by decide +kernel
theorem dX0_turnOnce_54 : decode cX0_turnOnce 54 = .ok (.iload_n 2, 1) := by decide +kernel
theorem dX0_turnOnce_55 : decode cX0_turnOnce 55 = .ok (.aaload, 1) := by decide +kernel
theorem dX0_turnOnce_56 : decode cX0_turnOnce 56 = .ok (.aload_n 0, 1) := by decide +kernel
theorem dX0_turnOnce_57 : decode cX0_turnOnce 57 = .ok (.iload_n 2, 1) := by decide +kernel
theorem dX0_turnOnce_58 : decode cX0_turnOnce 58 = .ok (.invokevirtual 146, 3) := by decide +kernel
theorem dX0_turnOnce_61 : decode cX0_turnOnce 61 = .ok (.iload_n 1, 1) := by decide +kernel
theorem dX0_turnOnce_62 : decode cX0_turnOnce 62 = .ok (.invokevirtual 150, 3) := by decide +kernel
theorem dX0_turnOnce_65 : decode cX0_turnOnce 65 = .ok (.iinc 2 1, 3) := by decide +kernel
theorem dX0_turnOnce_68 : decode cX0_turnOnce 68 = .ok (.goto (-27), 3) := by decide +kernel
theorem dX0_turnOnce_71 : decode cX0_turnOnce 71 = .ok (.aload_n 0, 1) := by decide +kernel
theorem dX0_turnOnce_72 : decode cX0_turnOnce 72 = .ok (.dup, 1) := by decide +kernel
theorem dX0_turnOnce_73 : decode cX0_turnOnce 73 = .ok (.getfield 65, 3) := by decide +kernel
theorem dX0_turnOnce_76 : decode cX0_turnOnce 76 = .ok (.iconst 1, 1) := by decide +kernel
theorem dX0_turnOnce_77 : decode cX0_turnOnce 77 = .ok (.iadd, 1) := by decide +kernel
theorem dX0_turnOnce_78 : decode cX0_turnOnce 78 = .ok (.putfield 65, 3) := by decide +kernel
theorem dX0_turnOnce_81 : decode cX0_turnOnce 81 = .ok (.return_, 1) := by decide +kernel
theorem dX0_letAllOver_0 : decode cX0_letAllOver 0 = .ok (.iconst 0, 1) := by decide +kernel
theorem dX0_letAllOver_1 : decode cX0_letAllOver 1 = .ok (.istore_n 1, 1) := by decide +kernel
theorem dX0_letAllOver_2 : decode cX0_letAllOver 2 = .ok (.iload_n 1, 1) := by decide +kernel
theorem dX0_letAllOver_3 : decode cX0_letAllOver 3 = .ok (.aload_n 0, 1) := by decide +kernel
theorem dX0_letAllOver_4 : decode cX0_letAllOver 4 = .ok (.getfield 59, 3) := by decide +kernel
theorem dX0_letAllOver_7 : decode cX0_letAllOver 7 = .ok (.if_icmp .ge 44, 3) := by decide +kernel
theorem dX0_letAllOver_10 : decode cX0_letAllOver 10 = .ok (.aload_n 0, 1) := by decide +kernel
theorem dX0_letAllOver_11 : decode cX0_letAllOver 11 = .ok (.getfield 23, 3) := by decide +kernel
theorem dX0_letAllOver_14 : decode cX0_letAllOver 14 = .ok (.iload_n 1, 1) := by decide +kernel
theorem dX0_letAllOver_15 : decode cX0_letAllOver 15 = .ok (.aaload, 1) := by decide +kernel
theorem dX0_letAllOver_16 : decode cX0_letAllOver 16 = .ok (.astore_n 2, 1) := by decide +kernel
theorem dX0_letAllOver_17 : decode cX0_letAllOver 17 = .ok (.aload_n 2, 1) := by decide +kernel
theorem dX0_letAllOver_18 : decode cX0_letAllOver 18 = .ok (.getfield 93, 3) := by decide +kernel
theorem dX0_letAllOver_21 : decode cX0_letAllOver 21 = .ok (.iconst 1, 1) := by decide +kernel
theorem dX0_letAllOver_22 : decode cX0_letAllOver 22 = .ok (.if_icmp .eq 18, 3) := by decide +kernel
theorem dX0_letAllOver_25 : decode cX0_letAllOver 25 = .ok (.aload_n 2, 1) := by decide +kernel
theorem dX0_letAllOver_26 : decode cX0_letAllOver 26 = .ok (.getfield 93, 3) := by decide +kernel
theorem dX0_letAllOver_29 : decode cX0_letAllOver 29 = .ok (.ifCond .ne 16, 3) := by decide +kernel
theorem dX0_letAllOver_32 : decode cX0_letAllOver 32 = .ok (.aload_n 0, 1) := by decide +kernel
theorem dX0_letAllOver_33 : decode cX0_letAllOver 33 = .ok (.iload_n 1, 1) := by decide +kernel
theorem dX0_letAllOver_34 : decode cX0_letAllOver 34 = .ok (.invokevirtual 146, 3) := by decide +kernel
theorem dX0_letAllOver_37 : decode cX0_letAllOver 37 = .ok (.ifCond .eq 8, 3) := by decide +kernel
theorem dX0_letAllOver_40 : decode cX0_letAllOver 40 = .ok (.aload_n 2, 1) := by decide +kernel
theorem dX0_letAllOver_41 : decode cX0_letAllOver 41 = .ok (.iconst 2, 1) := by decide +kernel
theorem dX0_letAllOver_42 : decode cX0_letAllOver 42 = .ok (.putfield 93, 3) := by decide +kernel
theorem dX0_letAllOver_45 : decode cX0_letAllOver 45 = .ok (.iinc 1 1, 3) := by decide +kernel
theorem dX0_letAllOver_48 : decode cX0_letAllOver 48 = .ok (.goto (-46), 3) := by decide +kernel
theorem dX0_letAllOver_51 : decode cX0_letAllOver 51 = .ok (.return_, 1) := by decide +kernel
theorem dX0_tireTurners_0 : decode cX0_tireTurners 0 = .ok (.iconst 0, 1) := by decide +kernel
theorem dX0_tireTurners_1 : decode cX0_tireTurners 1 = .ok (.istore_n 1, 1) := by decide +kernel
theorem dX0_tireTurners_2 : decode cX0_tireTurners 2 = .ok (.iload_n 1, 1) := by decide +kernel
theorem dX0_tireTurners_3 : decode cX0_tireTurners 3 = .ok (.aload_n 0, 1) := by decide +kernel
theorem dX0_tireTurners_4 : decode cX0_tireTurners 4 = .ok (.getfield 52, 3) := by decide +kernel
theorem dX0_tireTurners_7 : decode cX0_tireTurners 7 = .ok (.if_icmp .ge 52, 3) := by decide +kernel
theorem dX0_tireTurners_10 : decode cX0_tireTurners 10 = .ok (.aload_n 0, 1) := by decide +kernel
theorem dX0_tireTurners_11 : decode cX0_tireTurners 11 = .ok (.getfield 17, 3) := by decide +kernel
theorem dX0_tireTurners_14 : decode cX0_tireTurners 14 = .ok (.iload_n 1, 1) := by decide +kernel
theorem dX0_tireTurners_15 : decode cX0_tireTurners 15 = .ok (.aaload, 1) := by decide +kernel
theorem dX0_tireTurners_16 : decode cX0_tireTurners 16 = .ok (.astore_n 2, 1) := by decide +kernel
theorem dX0_tireTurners_17 : decode cX0_tireTurners 17 = .ok (.aload_n 2, 1) := by decide +kernel
theorem dX0_tireTurners_18 : decode cX0_tireTurners 18 = .ok (.iload_n 1, 1) := by decide +kernel
theorem dX0_tireTurners_19 : decode cX0_tireTurners 19 = .ok (.aload_n 0, 1) := by decide +kernel
theorem dX0_tireTurners_20 : decode cX0_tireTurners 20 = .ok (.getfield 68, 3) := by decide +kernel
theorem dX0_tireTurners_23 : decode cX0_tireTurners 23 = .ok (.if_icmp .ne 17, 3) := by decide +kernel
theorem dX0_tireTurners_26 : decode cX0_tireTurners 26 = .ok (.aload_n 2, 1) := by decide +kernel
theorem dX0_tireTurners_27 : decode cX0_tireTurners 27 = .ok (.getfield 77, 3) := by decide +kernel
theorem dX0_tireTurners_30 : decode cX0_tireTurners 30 = .ok (.iconst 1, 1) := by decide +kernel
theorem dX0_tireTurners_31 : decode cX0_tireTurners 31 = .ok (.iadd, 1) := by decide +kernel
theorem dX0_tireTurners_32 : decode cX0_tireTurners 32 = .ok (.bipush 99, 2) := by decide +kernel
theorem dX0_tireTurners_34 : decode cX0_tireTurners 34 = .ok (.invokestatic 154, 3) := by decide +kernel
theorem dX0_tireTurners_37 : decode cX0_tireTurners 37 = .ok (.goto 13, 3) := by decide +kernel
theorem dX0_tireTurners_40 : decode cX0_tireTurners 40 = .ok (.aload_n 2, 1) := by decide +kernel
theorem dX0_tireTurners_41 : decode cX0_tireTurners 41 = .ok (.getfield 77, 3) := by decide +kernel
theorem dX0_tireTurners_44 : decode cX0_tireTurners 44 = .ok (.iconst 1, 1) := by decide +kernel
theorem dX0_tireTurners_45 : decode cX0_tireTurners 45 = .ok (.isub, 1) := by decide +kernel
theorem dX0_tireTurners_46 : decode cX0_tireTurners 46 = .ok (.iconst 0, 1) := by decide +kernel
theorem dX0_tireTurners_47 : decode cX0_tireTurners 47 = .ok (.invokestatic 121, 3) := by decide +kernel
theorem dX0_tireTurners_50 : decode cX0_tireTurners 50 = .ok (.putfield 77, 3) := by decide +kernel
theorem dX0_tireTurners_53 : decode cX0_tireTurners 53 = .ok (.iinc 1 1, 3) := by decide +kernel
theorem dX0_tireTurners_56 : decode cX0_tireTurners 56 = .ok (.goto (-54), 3) := by decide +kernel
theorem dX0_tireTurners_59 : decode cX0_tireTurners 59 = .ok (.return_, 1) := by decide +kernel
theorem dX0_meetRope_0 : decode cX0_meetRope 0 = .ok (.aload_n 1, 1) := by decide +kernel
theorem dX0_meetRope_1 : decode cX0_meetRope 1 = .ok (.getfield 93, 3) := by decide +kernel
theorem dX0_meetRope_4 : decode cX0_meetRope 4 = .ok (.iconst 1, 1) := by decide +kernel
theorem dX0_meetRope_5 : decode cX0_meetRope 5 = .ok (.if_icmp .ne 15, 3) := by decide +kernel
theorem dX0_meetRope_8 : decode cX0_meetRope 8 = .ok (.iload_n 3, 1) := by decide +kernel
theorem dX0_meetRope_9 : decode cX0_meetRope 9 = .ok (.ifCond .eq 11, 3) := by decide +kernel
theorem dX0_meetRope_12 : decode cX0_meetRope 12 = .ok (.aload_n 0, 1) := by decide +kernel
theorem dX0_meetRope_13 : decode cX0_meetRope 13 = .ok (.aload_n 1, 1) := by decide +kernel
theorem dX0_meetRope_14 : decode cX0_meetRope 14 = .ok (.invokevirtual 157, 3) := by decide +kernel
theorem dX0_meetRope_17 : decode cX0_meetRope 17 = .ok (.goto 66, 3) := by decide +kernel
theorem dX0_meetRope_20 : decode cX0_meetRope 20 = .ok (.aload_n 1, 1) := by decide +kernel
theorem dX0_meetRope_21 : decode cX0_meetRope 21 = .ok (.getfield 93, 3) := by decide +kernel
theorem dX0_meetRope_24 : decode cX0_meetRope 24 = .ok (.iconst 1, 1) := by decide +kernel
theorem dX0_meetRope_25 : decode cX0_meetRope 25 = .ok (.if_icmp .ne 18, 3) := by decide +kernel
theorem dX0_meetRope_28 : decode cX0_meetRope 28 = .ok (.aload_n 1, 1) := by decide +kernel
theorem dX0_meetRope_29 : decode cX0_meetRope 29 = .ok (.getfield 96, 3) := by decide +kernel
theorem dX0_meetRope_32 : decode cX0_meetRope 32 = .ok (.ifCond .ne 11, 3) := by decide +kernel
theorem dX0_meetRope_35 : decode cX0_meetRope 35 = .ok (.aload_n 1, 1) := by decide +kernel
theorem dX0_meetRope_36 : decode cX0_meetRope 36 = .ok (.iconst 2, 1) := by decide +kernel
theorem dX0_meetRope_37 : decode cX0_meetRope 37 = .ok (.putfield 93, 3) := by decide +kernel
theorem dX0_meetRope_40 : decode cX0_meetRope 40 = .ok (.goto 43, 3) := by decide +kernel
theorem dX0_meetRope_43 : decode cX0_meetRope 43 = .ok (.aload_n 1, 1) := by decide +kernel
theorem dX0_meetRope_44 : decode cX0_meetRope 44 = .ok (.getfield 93, 3) := by decide +kernel
theorem dX0_meetRope_47 : decode cX0_meetRope 47 = .ok (.ifCond .ne 36, 3) := by decide +kernel
theorem dX0_meetRope_50 : decode cX0_meetRope 50 = .ok (.iload_n 2, 1) := by decide +kernel
theorem dX0_meetRope_51 : decode cX0_meetRope 51 = .ok (.ifCond .eq 32, 3) := by decide +kernel
theorem dX0_meetRope_54 : decode cX0_meetRope 54 = .ok (.iload_n 3, 1) := by decide +kernel
theorem dX0_meetRope_55 : decode cX0_meetRope 55 = .ok (.ifCond .ne 28, 3) := by decide +kernel
theorem dX0_meetRope_58 : decode cX0_meetRope 58 = .ok (.aload_n 0, 1) := by decide +kernel
theorem dX0_meetRope_59 : decode cX0_meetRope 59 = .ok (.aload_n 1, 1) := by decide +kernel
theorem dX0_meetRope_60 : decode cX0_meetRope 60 = .ok (.getfield 90, 3) := by decide +kernel
theorem dX0_meetRope_63 : decode cX0_meetRope 63 = .ok (.invokevirtual 160, 3) := by decide +kernel
theorem dX0_meetRope_66 : decode cX0_meetRope 66 = .ok (.ifCond .eq 17, 3) := by decide +kernel
theorem dX0_meetRope_69 : decode cX0_meetRope 69 = .ok (.aload_n 1, 1) := by decide +kernel
theorem dX0_meetRope_70 : decode cX0_meetRope 70 = .ok (.iconst 1, 1) := by decide +kernel
theorem dX0_meetRope_71 : decode cX0_meetRope 71 = .ok (.putfield 93, 3) := by decide +kernel
theorem dX0_meetRope_74 : decode cX0_meetRope 74 = .ok (.aload_n 1, 1) := by decide +kernel
theorem dX0_meetRope_75 : decode cX0_meetRope 75 = .ok (.aload_n 0, 1) := by decide +kernel
theorem dX0_meetRope_76 : decode cX0_meetRope 76 = .ok (.aload_n 1, 1) := by decide +kernel
theorem dX0_meetRope_77 : decode cX0_meetRope 77 = .ok (.invokevirtual 163, 3) := by decide +kernel
theorem dX0_meetRope_80 : decode cX0_meetRope 80 = .ok (.putfield 96, 3) := by decide +kernel
theorem dX0_meetRope_83 : decode cX0_meetRope 83 = .ok (.return_, 1) := by decide +kernel
theorem dX0_jumpOrTrip_0 : decode cX0_jumpOrTrip 0 = .ok (.aload_n 0, 1) := by decide +kernel
theorem dX0_jumpOrTrip_1 : decode cX0_jumpOrTrip 1 = .ok (.getfield 9, 3) := by decide +kernel
theorem dX0_jumpOrTrip_4 : decode cX0_jumpOrTrip 4 = .ok (.aload_n 1, 1) := by decide +kernel
theorem dX0_jumpOrTrip_5 : decode cX0_jumpOrTrip 5 = .ok (.getfield 90, 3) := by decide +kernel
theorem dX0_jumpOrTrip_8 : decode cX0_jumpOrTrip 8 = .ok (.iaload, 1) := by decide +kernel
theorem dX0_jumpOrTrip_9 : decode cX0_jumpOrTrip 9 = .ok (.istore_n 2, 1) := by decide +kernel
theorem dX0_jumpOrTrip_10 : decode cX0_jumpOrTrip 10 = .ok (.aload_n 0, 1) := by decide +kernel
theorem dX0_jumpOrTrip_11 : decode cX0_jumpOrTrip 11 = .ok (.getfield 41, 3) := by decide +kernel
theorem dX0_jumpOrTrip_14 : decode cX0_jumpOrTrip 14 = .ok (.aload_n 1, 1) := by decide +kernel
theorem dX0_jumpOrTrip_15 : decode cX0_jumpOrTrip 15 = .ok (.getfield 84, 3) := by decide +kernel
theorem dX0_jumpOrTrip_18 : decode cX0_jumpOrTrip 18 = .ok (.iload_n 2, 1) := by decide +kernel
theorem dX0_jumpOrTrip_19 : decode cX0_jumpOrTrip 19 = .ok (.aload_n 0, 1) := by decide +kernel
theorem dX0_jumpOrTrip_20 : decode cX0_jumpOrTrip 20 = .ok (.invokevirtual 143, 3) := by decide +kernel
theorem dX0_jumpOrTrip_23 : decode cX0_jumpOrTrip 23 = .ok (.invokevirtual 103, 3) := by decide +kernel
theorem dX0_jumpOrTrip_26 : decode cX0_jumpOrTrip 26 = .ok (.iconst 1, 1) := by decide +kernel
theorem dX0_jumpOrTrip_27 : decode cX0_jumpOrTrip 27 = .ok (.if_icmp .ne 41, 3) := by decide +kernel
theorem dX0_jumpOrTrip_30 : decode cX0_jumpOrTrip 30 = .ok (.aload_n 1, 1) := by decide +kernel
theorem dX0_jumpOrTrip_31 : decode cX0_jumpOrTrip 31 = .ok (.aload_n 1, 1) := by decide +kernel
theorem dX0_jumpOrTrip_32 : decode cX0_jumpOrTrip 32 = .ok (.getfield 96, 3) := by decide +kernel
theorem dX0_jumpOrTrip_35 : decode cX0_jumpOrTrip 35 = .ok (.iconst 1, 1) := by decide +kernel
theorem dX0_jumpOrTrip_36 : decode cX0_jumpOrTrip 36 = .ok (.isub, 1) := by decide +kernel
theorem dX0_jumpOrTrip_37 : decode cX0_jumpOrTrip 37 = .ok (.iconst 0, 1) := by decide +kernel
theorem dX0_jumpOrTrip_38 : decode cX0_jumpOrTrip 38 = .ok (.invokestatic 121, 3) := by decide +kernel
theorem dX0_jumpOrTrip_41 : decode cX0_jumpOrTrip 41 = .ok (.putfield 96, 3) := by decide +kernel
theorem dX0_jumpOrTrip_44 : decode cX0_jumpOrTrip 44 = .ok (.aload_n 0, 1) := by decide +kernel
theorem dX0_jumpOrTrip_45 : decode cX0_jumpOrTrip 45 = .ok (.getfield 9, 3) := by decide +kernel
theorem dX0_jumpOrTrip_48 : decode cX0_jumpOrTrip 48 = .ok (.aload_n 1, 1) := by decide +kernel
theorem dX0_jumpOrTrip_49 : decode cX0_jumpOrTrip 49 = .ok (.getfield 90, 3) := by decide +kernel
theorem dX0_jumpOrTrip_52 : decode cX0_jumpOrTrip 52 = .ok (.iload_n 2, 1) := by decide +kernel
theorem dX0_jumpOrTrip_53 : decode cX0_jumpOrTrip 53 = .ok (.aload_n 1, 1) := by decide +kernel
theorem dX0_jumpOrTrip_54 : decode cX0_jumpOrTrip 54 = .ok (.invokevirtual 167, 3) := by decide +kernel
theorem dX0_jumpOrTrip_57 : decode cX0_jumpOrTrip 57 = .ok (.iadd, 1) := by decide +kernel
theorem dX0_jumpOrTrip_58 : decode cX0_jumpOrTrip 58 = .ok (.sipush 999, 3) := by decide +kernel
theorem dX0_jumpOrTrip_61 : decode cX0_jumpOrTrip 61 = .ok (.invokestatic 154, 3) := by decide +kernel
theorem dX0_jumpOrTrip_64 : decode cX0_jumpOrTrip 64 = .ok (.iastore, 1) := by decide +kernel
theorem dX0_jumpOrTrip_65 : decode cX0_jumpOrTrip 65 = .ok (.goto 8, 3) := by decide +kernel
theorem dX0_jumpOrTrip_68 : decode cX0_jumpOrTrip 68 = .ok (.aload_n 1, 1) := by decide +kernel
theorem dX0_jumpOrTrip_69 : decode cX0_jumpOrTrip 69 = .ok (.iconst 3, 1) := by decide +kernel
theorem dX0_jumpOrTrip_70 : decode cX0_jumpOrTrip 70 = .ok (.putfield 93, 3) := by decide +kernel
theorem dX0_jumpOrTrip_73 : decode cX0_jumpOrTrip 73 = .ok (.return_, 1) := by decide +kernel
theorem dX0_isFree_0 : decode cX0_isFree 0 = .ok (.iconst 0, 1) := by decide +kernel
theorem dX0_isFree_1 : decode cX0_isFree 1 = .ok (.istore_n 2, 1) := by decide +kernel
theorem dX0_isFree_2 : decode cX0_isFree 2 = .ok (.iload_n 2, 1) := by decide +kernel
theorem dX0_isFree_3 : decode cX0_isFree 3 = .ok (.aload_n 0, 1) := by decide +kernel
theorem dX0_isFree_4 : decode cX0_isFree 4 = .ok (.getfield 59, 3) := by decide +kernel
theorem dX0_isFree_7 : decode cX0_isFree 7 = .ok (.if_icmp .ge 37, 3) := by decide +kernel
theorem dX0_isFree_10 : decode cX0_isFree 10 = .ok (.aload_n 0, 1) := by decide +kernel
theorem dX0_isFree_11 : decode cX0_isFree 11 = .ok (.getfield 23, 3) := by decide +kernel
theorem dX0_isFree_14 : decode cX0_isFree 14 = .ok (.iload_n 2, 1) := by decide +kernel
theorem dX0_isFree_15 : decode cX0_isFree 15 = .ok (.aaload, 1) := by decide +kernel
theorem dX0_isFree_16 : decode cX0_isFree 16 = .ok (.getfield 93, 3) := by decide +kernel
theorem dX0_isFree_19 : decode cX0_isFree 19 = .ok (.iconst 1, 1) := by decide +kernel
theorem dX0_isFree_20 : decode cX0_isFree 20 = .ok (.if_icmp .ne 18, 3) := by decide +kernel
theorem dX0_isFree_23 : decode cX0_isFree 23 = .ok (.aload_n 0, 1) := by decide +kernel
theorem dX0_isFree_24 : decode cX0_isFree 24 = .ok (.getfield 23, 3) := by decide +kernel
theorem dX0_isFree_27 : decode cX0_isFree 27 = .ok (.iload_n 2, 1) := by decide +kernel
theorem dX0_isFree_28 : decode cX0_isFree 28 = .ok (.aaload, 1) := by decide +kernel
theorem dX0_isFree_29 : decode cX0_isFree 29 = .ok (.getfield 90, 3) := by decide +kernel
theorem dX0_isFree_32 : decode cX0_isFree 32 = .ok (.iload_n 1, 1) := by decide +kernel
theorem dX0_isFree_33 : decode cX0_isFree 33 = .ok (.if_icmp .ne 5, 3) := by decide +kernel
theorem dX0_isFree_36 : decode cX0_isFree 36 = .ok (.iconst 0, 1) := by decide +kernel
theorem dX0_isFree_37 : decode cX0_isFree 37 = .ok (.ireturn, 1) := by decide +kernel
theorem dX0_isFree_38 : decode cX0_isFree 38 = .ok (.iinc 2 1, 3) := by decide +kernel
theorem dX0_isFree_41 : decode cX0_isFree 41 = .ok (.goto (-39), 3) := by decide +kernel
theorem dX0_isFree_44 : decode cX0_isFree 44 = .ok (.iconst 1, 1) := by decide +kernel
theorem dX0_isFree_45 : decode cX0_isFree 45 = .ok (.ireturn, 1) := by decide +kernel
