theorem dX4_init_0 : decode cX4_init 0 = .ok (.aload_n 0, 1) := by decide +kernel
theorem dX4_init_1 : decode cX4_init 1 = .ok (.invokespecial 3, 3) := by decide +kernel
theorem dX4_init_4 : decode cX4_init 4 = .ok (.aload_n 0, 1) := by decide +kernel
theorem dX4_init_5 : decode cX4_init 5 = .ok (.bipush 50, 2) := by decide +kernel
theorem dX4_init_7 : decode cX4_init 7 = .ok (.newarray .int, 2) := by decide +kernel
theorem dX4_init_9 : decode cX4_init 9 = .ok (.putfield 9, 3) := by decide +kernel
theorem dX4_init_12 : decode cX4_init 12 = .ok (.aload_n 0, 1) := by decide +kernel
theorem dX4_init_13 : decode cX4_init 13 = .ok (.ldc 15, 2) := by decide +kernel
theorem dX4_init_15 : decode cX4_init 15 = .ok (.putfield 17, 3) := by decide +kernel
theorem dX4_init_18 : decode cX4_init 18 = .ok (.aload_n 0, 1) := by decide +kernel
theorem dX4_init_19 : decode cX4_init 19 = .ok (.aload_n 1, 1) := by decide +kernel
theorem dX4_init_20 : decode cX4_init 20 = .ok (.putfield 21, 3) := by decide +kernel
theorem dX4_init_23 : decode cX4_init 23 = .ok (.return_, 1) := by decide +kernel
theorem dX4_reads_0 : decode cX4_reads 0 = .ok (.aload_n 0, 1) := by decide +kernel
theorem dX4_reads_1 : decode cX4_reads 1 = .ok (.iload_n 2, 1) := by decide +kernel
theorem dX4_reads_2 : decode cX4_reads 2 = .ok (.ifCond .ne 8, 3) := by decide +kernel
theorem dX4_reads_5 : decode cX4_reads 5 = .ok (.ldc 15, 2) := by decide +kernel
theorem dX4_reads_7 : decode cX4_reads 7 = .ok (.goto 5, 3) := by decide +kernel
theorem dX4_reads_10 : decode cX4_reads 10 = .ok (.ldc 24, 2) := by decide +kernel
theorem dX4_reads_12 : decode cX4_reads 12 = .ok (.putfield 17, 3) := by decide +kernel
theorem dX4_reads_15 : decode cX4_reads 15 = .ok (.aload_n 0, 1) := by decide +kernel
theorem dX4_reads_16 : decode cX4_reads 16 = .ok (.iload_n 1, 1) := by decide +kernel
theorem dX4_reads_17 : decode cX4_reads 17 = .ok (.aload_n 0, 1) := by decide +kernel
theorem dX4_reads_18 : decode cX4_reads 18 = .ok (.getfield 21, 3) := by decide +kernel
theorem dX4_reads_21 : decode cX4_reads 21 = .ok (.arraylength, 1) := by decide +kernel
theorem dX4_reads_22 : decode cX4_reads 22 = .ok (.invokestatic 26, 3) := by decide +kernel
theorem dX4_reads_25 : decode cX4_reads 25 = .ok (.putfield 32, 3) := by decide +kernel
theorem dX4_reads_28 : decode cX4_reads 28 = .ok (.aload_n 0, 1) := by decide +kernel
theorem dX4_reads_29 : decode cX4_reads 29 = .ok (.iconst 0, 1) := by decide +kernel
theorem dX4_reads_30 : decode cX4_reads 30 = .ok (.putfield 36, 3) := by decide +kernel
theorem dX4_reads_33 : decode cX4_reads 33 = .ok (.aload_n 0, 1) := by decide +kernel
theorem dX4_reads_34 : decode cX4_reads 34 = .ok (.iconst 0, 1) := by decide +kernel
theorem dX4_reads_35 : decode cX4_reads 35 = .ok (.putfield 39, 3) := by decide +kernel
theorem dX4_reads_38 : decode cX4_reads 38 = .ok (.aload_n 0, 1) := by decide +kernel
theorem dX4_reads_39 : decode cX4_reads 39 = .ok (.iconst 0, 1) := by decide +kernel
theorem dX4_reads_40 : decode cX4_reads 40 = .ok (.iconst 0, 1) := by decide +kernel
theorem dX4_reads_41 : decode cX4_reads 41 = .ok (.invokevirtual 42, 3) := by decide +kernel
theorem dX4_reads_44 : decode cX4_reads 44 = .ok (.ifCond .eq 18, 3) := by decide +kernel
theorem dX4_reads_47 : decode cX4_reads 47 = .ok (.aload_n 0, 1) := by decide +kernel
theorem dX4_reads_48 : decode cX4_reads 48 = .ok (.getfield 39, 3) := by decide +kernel
theorem dX4_reads_51 : decode cX4_reads 51 = .ok (.aload_n 0, 1) := by decide +kernel
theorem dX4_reads_52 : decode cX4_reads 52 = .ok (.getfield 32, 3) := by decide +kernel
theorem dX4_reads_55 : decode cX4_reads 55 = .ok (.if_icmp .ne 7, 3) := by decide +kernel
theorem dX4_reads_58 : decode cX4_reads 58 = .ok (.iconst 1, 1) := by decide +kernel
theorem dX4_reads_59 : decode cX4_reads 59 = .ok (.goto 4, 3) := by decide +kernel
theorem dX4_reads_62 : decode cX4_reads 62 = .ok (.iconst 0, 1) := by decide +kernel
theorem dX4_reads_63 : decode cX4_reads 63 = .ok (.ireturn, 1) := by decide +kernel
theorem dX4_ahead_0 : decode cX4_ahead 0 = .ok (.aload_n 0, 1) := by decide +kernel
theorem dX4_ahead_1 : decode cX4_ahead 1 = .ok (.getfield 39, 3) := by decide +kernel
theorem dX4_ahead_4 : decode cX4_ahead 4 = .ok (.aload_n 0, 1) := by decide +kernel
theorem dX4_ahead_5 : decode cX4_ahead 5 = .ok (.getfield 32, 3) := by decide +kernel
theorem dX4_ahead_8 : decode cX4_ahead 8 = .ok (.if_icmp .ge 15, 3) := by decide +kernel
theorem dX4_ahead_11 : decode cX4_ahead 11 = .ok (.aload_n 0, 1) := by decide +kernel
theorem dX4_ahead_12 : decode cX4_ahead 12 = .ok (.getfield 21, 3) := by decide +kernel
theorem dX4_ahead_15 : decode cX4_ahead 15 = .ok (.aload_n 0, 1) := by decide +kernel
theorem dX4_ahead_16 : decode cX4_ahead 16 = .ok (.getfield 39, 3) := by decide +kernel
theorem dX4_ahead_19 : decode cX4_ahead 19 = .ok (.iaload, 1) := by decide +kernel
theorem dX4_ahead_20 : decode cX4_ahead 20 = .ok (.goto 4, 3) := by decide +kernel
theorem dX4_ahead_23 : decode cX4_ahead 23 = .ok (.iconst (-1), 1) := by decide +kernel
theorem dX4_ahead_24 : decode cX4_ahead 24 = .ok (.ireturn, 1) := by decide +kernel
theorem dX4_write_0 : decode cX4_write 0 = .ok (.aload_n 0, 1) := by decide +kernel
theorem dX4_write_1 : decode cX4_write 1 = .ok (.getfield 36, 3) := by decide +kernel
theorem dX4_write_4 : decode cX4_write 4 = .ok (.aload_n 0, 1) := by decide +kernel
theorem dX4_write_5 : decode cX4_write 5 = .ok (.getfield 9, 3) := by decide +kernel
theorem dX4_write_8 : decode cX4_write 8 = .ok (.arraylength, 1) := by decide +kernel
theorem dX4_write_9 : decode cX4_write 9 = .ok (.if_icmp .ge 23, 3) := by decide +kernel
theorem dX4_write_12 : decode cX4_write 12 = .ok (.aload_n 0, 1) := by decide +kernel
theorem dX4_write_13 : decode cX4_write 13 = .ok (.getfield 9, 3) := by decide +kernel
theorem dX4_write_16 : decode cX4_write 16 = .ok (.aload_n 0, 1) := by decide +kernel
theorem dX4_write_17 : decode cX4_write 17 = .ok (.getfield 36, 3) := by decide +kernel
theorem dX4_write_20 : decode cX4_write 20 = .ok (.iload_n 1, 1) := by decide +kernel
theorem dX4_write_21 : decode cX4_write 21 = .ok (.iastore, 1) := by decide +kernel
theorem dX4_write_22 : decode cX4_write 22 = .ok (.aload_n 0, 1) := by decide +kernel
theorem dX4_write_23 : decode cX4_write 23 = .ok (.dup, 1) := by decide +kernel
theorem dX4_write_24 : decode cX4_write 24 = .ok (.getfield 36, 3) := by decide +kernel
theorem dX4_write_27 : decode cX4_write 27 = .ok (.iconst 1, 1) := by decide +kernel
theorem dX4_write_28 : decode cX4_write 28 = .ok (.iadd, 1) := by decide +kernel
theorem dX4_write_29 : decode cX4_write 29 = .ok (.putfield 36, 3) := by decide +kernel
theorem dX4_write_32 : decode cX4_write 32 = .ok (.return_, 1) := by decide +kernel
theorem dX4_levelOf_0 : decode cX4_levelOf 0 = .ok (.iload_n 0, 1) := by decide +kernel
theorem dX4_levelOf_1 : decode cX4_levelOf 1 = .ok (.lookupswitch 101 #[(37, 99), (38, 93), (42, 99), (43, 97), (45, 97), (47, 99), (60, 95), (61, 95), (62, 95), (124, 91)], 91) := by decide +kernel
theorem dX4_levelOf_92 : decode cX4_levelOf 92 = .ok (.iconst 0, 1) := by decide +kernel
theorem dX4_levelOf_93 : decode cX4_levelOf 93 = .ok (.ireturn, 1) := by decide +kernel
theorem dX4_levelOf_94 : decode cX4_levelOf 94 = .ok (.iconst 1, 1) := by decide +kernel
theorem dX4_levelOf_95 : decode cX4_levelOf 95 = .ok (.ireturn, 1) := by decide +kernel
theorem dX4_levelOf_96 : decode cX4_levelOf 96 = .ok (.iconst 2, 1) := by decide +kernel
theorem dX4_levelOf_97 : decode cX4_levelOf 97 = .ok (.ireturn, 1) := by decide +kernel
theorem dX4_levelOf_98 : decode cX4_levelOf 98 = .ok (.iconst 3, 1) := by decide +kernel
theorem dX4_levelOf_99 : decode cX4_levelOf 99 = .ok (.ireturn, 1) := by decide +kernel
theorem dX4_levelOf_100 : decode cX4_levelOf 100 = .ok (.iconst 4, 1) := by decide +kernel
theorem dX4_levelOf_101 : decode cX4_levelOf 101 = .ok (.ireturn, 1) := by decide +kernel
theorem dX4_levelOf_102 : decode cX4_levelOf 102 = .ok (.iconst (-1), 1) := by decide +kernel
theorem dX4_levelOf_103 : decode cX4_levelOf 103 = .ok (.ireturn, 1) := by decide +kernel
theorem dX4_readLevel_0 : decode cX4_readLevel 0 = .ok (.iload_n 1, 1) := by decide +kernel
theorem dX4_readLevel_1 : decode cX4_readLevel 1 = .ok (.iconst 5, 1) := by decide +kernel
theorem dX4_readLevel_2 : decode cX4_readLevel 2 = .ok (.if_icmp .lt 9, 3) := by decide +kernel
theorem dX4_readLevel_5 : decode cX4_readLevel 5 = .ok (.aload_n 0, 1) := by decide +kernel
theorem dX4_readLevel_6 : decode cX4_readLevel 6 = .ok (.iload_n 2, 1) := by decide +kernel
theorem dX4_readLevel_7 : decode cX4_readLevel 7 = .ok (.invokevirtual 46, 3) := by decide +kernel
theorem dX4_readLevel_10 : decode cX4_readLevel 10 = .ok (.ireturn, 1) := by decide +kernel
theorem dX4_readLevel_11 : decode cX4_readLevel 11 = .ok (.aload_n 0, 1) := by decide +kernel
theorem dX4_readLevel_12 : decode cX4_readLevel 12 = .ok (.iload_n 1, 1) := by decide +kernel
theorem dX4_readLevel_13 : decode cX4_readLevel 13 = .ok (.iconst 1, 1) := by decide +kernel
theorem dX4_readLevel_14 : decode cX4_readLevel 14 = .ok (.iadd, 1) := by decide +kernel
theorem dX4_readLevel_15 : decode cX4_readLevel 15 = .ok (.iload_n 2, 1) := by decide +kernel
theorem dX4_readLevel_16 : decode cX4_readLevel 16 = .ok (.invokevirtual 42, 3) := by decide +kernel
theorem dX4_readLevel_19 : decode cX4_readLevel 19 = .ok (.ifCond .ne 5, 3) := by decide +kernel
theorem dX4_readLevel_22 : decode cX4_readLevel 22 = .ok (.iconst 0, 1) := by decide +kernel
theorem dX4_readLevel_23 : decode cX4_readLevel 23 = .ok (.ireturn, 1) := by decide +kernel
theorem dX4_readLevel_24 : decode cX4_readLevel 24 = .ok (.iload_n 1, 1) := by decide +kernel
theorem dX4_readLevel_25 : decode cX4_readLevel 25 = .ok (.iconst 2, 1) := by decide +kernel
theorem dX4_readLevel_26 : decode cX4_readLevel 26 = .ok (.if_icmp .ne 7, 3) := by decide +kernel
theorem dX4_readLevel_29 : decode cX4_readLevel 29 = .ok (.iconst 1, 1) := by decide +kernel
theorem dX4_readLevel_30 : decode cX4_readLevel 30 = .ok (.goto 5, 3) := by decide +kernel
theorem dX4_readLevel_33 : decode cX4_readLevel 33 = .ok (.bipush 50, 2) := by decide +kernel
theorem dX4_readLevel_35 : decode cX4_readLevel 35 = .ok (.istore_n 3, 1) := by decide +kernel
theorem dX4_readLevel_36 : decode cX4_readLevel 36 = .ok (.iconst 0, 1) := by decide +kernel
theorem dX4_readLevel_37 : decode cX4_readLevel 37 = .ok (.istore 4, 2) := by decide +kernel
theorem dX4_readLevel_39 : decode cX4_readLevel 39 = .ok (.iload 4, 2) := by decide +kernel
theorem dX4_readLevel_41 : decode cX4_readLevel 41 = .ok (.iload_n 3, 1) := by decide +kernel
theorem dX4_readLevel_42 : decode cX4_readLevel 42 = .ok (.if_icmp .ge 56, 3) := by decide +kernel
theorem dX4_readLevel_45 : decode cX4_readLevel 45 = .ok (.aload_n 0, 1) := by decide +kernel
theorem dX4_readLevel_46 : decode cX4_readLevel 46 = .ok (.invokevirtual 50, 3) := by decide +kernel
theorem dX4_readLevel_49 : decode cX4_readLevel 49 = .ok (.invokestatic 54, 3) := by decide +kernel
theorem dX4_readLevel_52 : decode cX4_readLevel 52 = .ok (.iload_n 1, 1) := by decide +kernel
theorem dX4_readLevel_53 : decode cX4_readLevel 53 = .ok (.if_icmp .ne 45, 3) := by decide +kernel
theorem dX4_readLevel_56 : decode cX4_readLevel 56 = .ok (.aload_n 0, 1) := by decide +kernel
theorem dX4_readLevel_57 : decode cX4_readLevel 57 = .ok (.invokevirtual 50, 3) := by decide +kernel
theorem dX4_readLevel_60 : decode cX4_readLevel 60 = .ok (.istore 5, 2) := by decide +kernel
theorem dX4_readLevel_62 : decode cX4_readLevel 62 = .ok (.aload_n 0, 1) := by decide +kernel
theorem dX4_readLevel_63 : decode cX4_readLevel 63 = .ok (.dup, 1) := by decide +kernel
theorem dX4_readLevel_64 : decode cX4_readLevel 64 = .ok (.getfield 39, 3) := by decide +kernel
theorem dX4_readLevel_67 : decode cX4_readLevel 67 = .ok (.iconst 1, 1) := by decide +kernel
theorem dX4_readLevel_68 : decode cX4_readLevel 68 = .ok (.iadd, 1) := by decide +kernel
theorem dX4_readLevel_69 : decode cX4_readLevel 69 = .ok (.putfield 39, 3) := by decide +kernel
theorem dX4_readLevel_72 : decode cX4_readLevel 72 = .ok (.aload_n 0, 1) := by decide +kernel
theorem dX4_readLevel_73 : decode cX4_readLevel 73 = .ok (.iload_n 1, 1) := by decide +kernel
theorem dX4_readLevel_74 : decode cX4_readLevel 74 = .ok (.iconst 1, 1) := by decide +kernel
theorem dX4_readLevel_75 : decode cX4_readLevel 75 = .ok (.iadd, 1) := by decide +kernel
theorem dX4_readLevel_76 : decode cX4_readLevel 76 = .ok (.iload_n 2, 1) := by decide +kernel
theorem dX4_readLevel_77 : decode cX4_readLevel 77 = .ok (.invokevirtual 42, 3) := by decide +kernel
theorem dX4_readLevel_80 : decode cX4_readLevel 80 = .ok (.ifCond .ne 5, 3) := by decide +kernel
theorem dX4_readLevel_83 : decode cX4_readLevel 83 = .ok (.iconst 0, 1) := by decide +kernel
theorem dX4_readLevel_84 : decode cX4_readLevel 84 = .ok (.ireturn, 1) := by decide +kernel
theorem dX4_readLevel_85 : decode cX4_readLevel 85 = .ok (.aload_n 0, 1) := by decide +kernel
theorem dX4_readLevel_86 : decode cX4_readLevel 86 = .ok (.iload 5, 2) := by decide +kernel
theorem dX4_readLevel_88 : decode cX4_readLevel 88 = .ok (.ineg, 1) := by decide +kernel
theorem dX4_readLevel_89 : decode cX4_readLevel 89 = .ok (.invokevirtual 58, 3) := by decide +kernel
theorem dX4_readLevel_92 : decode cX4_readLevel 92 = .ok (.iinc 4 1, 3) := by decide +kernel
theorem dX4_readLevel_95 : decode cX4_readLevel 95 = .ok (.goto (-56), 3) := by decide +kernel
theorem dX4_readLevel_98 : decode cX4_readLevel 98 = .ok (.iconst 1, 1) := by decide +kernel
theorem dX4_readLevel_99 : decode cX4_readLevel 99 = .ok (.ireturn, 1) := by decide +kernel
theorem dX4_readUnit_0 : decode cX4_readUnit 0 = .ok (.aload_n 0, 1) := by decide +kernel
theorem dX4_readUnit_1 : decode cX4_readUnit 1 = .ok (.invokevirtual 50, 3) := by decide +kernel
theorem dX4_readUnit_4 : decode cX4_readUnit 4 = .ok (.istore_n 2, 1) := by decide +kernel
theorem dX4_readUnit_5 : decode cX4_readUnit 5 = .ok (.iload_n 2, 1) := by decide +kernel
theorem dX4_readUnit_6 : decode cX4_readUnit 6 = .ok (.invokestatic 62, 3) := by decide +kernel
theorem dX4_readUnit_9 : decode cX4_readUnit 9 = .ok (.ifCond .eq 9, 3) := by decide +kernel
theorem dX4_readUnit_12 : decode cX4_readUnit 12 = .ok (.aload_n 0, 1) := by decide +kernel
theorem dX4_readUnit_13 : decode cX4_readUnit 13 = .ok (.invokevirtual 65, 3) := by decide +kernel
theorem dX4_readUnit_16 : decode cX4_readUnit 16 = .ok (.iconst 1, 1) := by decide +kernel
theorem dX4_readUnit_17 : decode cX4_readUnit 17 = .ok (.ireturn, 1) := by decide +kernel
theorem dX4_readUnit_18 : decode cX4_readUnit 18 = .ok (.iload_n 2, 1) := by decide +kernel
theorem dX4_readUnit_19 : decode cX4_readUnit 19 = .ok (.bipush 33, 2) := by decide +kernel
theorem dX4_readUnit_21 : decode cX4_readUnit 21 = .ok (.if_icmp .eq 9, 3) := by decide +kernel
theorem dX4_readUnit_24 : decode cX4_readUnit 24 = .ok (.iload_n 2, 1) := by decide +kernel
theorem dX4_readUnit_25 : decode cX4_readUnit 25 = .ok (.bipush 40, 2) := by decide +kernel
theorem dX4_readUnit_27 : decode cX4_readUnit 27 = .ok (.if_icmp .ne 25, 3) := by decide +kernel
theorem dX4_readUnit_30 : decode cX4_readUnit 30 = .ok (.iload_n 1, 1) := by decide +kernel
theorem dX4_readUnit_31 : decode cX4_readUnit 31 = .ok (.iconst 5, 1) := by decide +kernel
theorem dX4_readUnit_32 : decode cX4_readUnit 32 = .ok (.if_icmp .ge 18, 3) := by decide +kernel
theorem dX4_readUnit_35 : decode cX4_readUnit 35 = .ok (.aload_n 0, 1) := by decide +kernel
theorem dX4_readUnit_36 : decode cX4_readUnit 36 = .ok (.iload_n 2, 1) := by decide +kernel
theorem dX4_readUnit_37 : decode cX4_readUnit 37 = .ok (.iload_n 1, 1) := by decide +kernel
theorem dX4_readUnit_38 : decode cX4_readUnit 38 = .ok (.iconst 1, 1) := by decide +kernel
theorem dX4_readUnit_39 : decode cX4_readUnit 39 = .ok (.iadd, 1) := by decide +kernel
theorem dX4_readUnit_40 : decode cX4_readUnit 40 = .ok (.invokevirtual 68, 3) := by decide +kernel
theorem dX4_readUnit_43 : decode cX4_readUnit 43 = .ok (.ifCond .eq 7, 3) := by decide +kernel
theorem dX4_readUnit_46 : decode cX4_readUnit 46 = .ok (.iconst 1, 1) := by decide +kernel
theorem dX4_readUnit_47 : decode cX4_readUnit 47 = .ok (.goto 4, 3) := by decide +kernel
theorem dX4_readUnit_50 : decode cX4_readUnit 50 = .ok (.iconst 0, 1) := by decide +kernel
theorem dX4_readUnit_51 : decode cX4_readUnit 51 = .ok (.ireturn, 1) := by decide +kernel
theorem dX4_readUnit_52 : decode cX4_readUnit 52 = .ok (.iload_n 2, 1) := by decide +kernel
theorem dX4_readUnit_53 : decode cX4_readUnit 53 = .ok (.iconst (-1), 1) := by decide +kernel
theorem dX4_readUnit_54 : decode cX4_readUnit 54 = .ok (.if_icmp .ne 7, 3) := by decide +kernel
theorem dX4_readUnit_57 : decode cX4_readUnit 57 = .ok (.iconst (-1), 1) := by decide +kernel
theorem dX4_readUnit_58 : decode cX4_readUnit 58 = .ok (.goto 12, 3) := by decide +kernel
theorem dX4_readUnit_61 : decode cX4_readUnit 61 = .ok (.aload_n 0, 1) := by decide +kernel
theorem dX4_readUnit_62 : decode cX4_readUnit 62 = .ok (.getfield 17, 3) := by decide +kernel
theorem dX4_readUnit_65 : decode cX4_readUnit 65 = .ok (.iload_n 2, 1) := by decide +kernel
theorem dX4_readUnit_66 : decode cX4_readUnit 66 = .ok (.i2c, 1) := by decide +kernel
theorem dX4_readUnit_67 : decode cX4_readUnit 67 = .ok (.invokevirtual 71, 3) := by decide +kernel
theorem dX4_readUnit_70 : decode cX4_readUnit 70 = .ok (.istore_n 3, 1) := by decide +kernel
theorem dX4_readUnit_71 : decode cX4_readUnit 71 = .ok (.iload_n 3, 1) := by decide +kernel
theorem dX4_readUnit_72 : decode cX4_readUnit 72 = .ok (.ifCond .ge 5, 3) := by decide +kernel
theorem dX4_readUnit_75 : decode cX4_readUnit 75 = .ok (.iconst 0, 1) := by decide +kernel
theorem dX4_readUnit_76 : decode cX4_readUnit 76 = .ok (.ireturn, 1) := by decide +kernel
theorem dX4_readUnit_77 : decode cX4_readUnit 77 = .ok (.aload_n 0, 1) := by decide +kernel
theorem dX4_readUnit_78 : decode cX4_readUnit 78 = .ok (.iconst (-1), 1) := by decide +kernel
theorem dX4_readUnit_79 : decode cX4_readUnit 79 = .ok (.iload_n 3, 1) := by decide +kernel
theorem dX4_readUnit_80 : decode cX4_readUnit 80 = .ok (.isub, 1) := by decide +kernel
theorem dX4_readUnit_81 : decode cX4_readUnit 81 = .ok (.invokevirtual 58, 3) := by decide +kernel
theorem dX4_readUnit_84 : decode cX4_readUnit 84 = .ok (.aload_n 0, 1) := by decide +kernel
theorem dX4_readUnit_85 : decode cX4_readUnit 85 = .ok (.dup, 1) := by decide +kernel
theorem dX4_readUnit_86 : decode cX4_readUnit 86 = .ok (.getfield 39, 3) := by decide +kernel
theorem dX4_readUnit_89 : decode cX4_readUnit 89 = .ok (.iconst 1, 1) := by decide +kernel
theorem dX4_readUnit_90 : decode cX4_readUnit 90 = .ok (.iadd, 1) := by decide +kernel
theorem dX4_readUnit_91 : decode cX4_readUnit 91 = .ok (.putfield 39, 3) := by decide +kernel
theorem dX4_readUnit_94 : decode cX4_readUnit 94 = .ok (.iconst 1, 1) := by decide +kernel
theorem dX4_readUnit_95 : decode cX4_readUnit 95 = .ok (.ireturn, 1) := by decide +kernel
theorem dX4_readOpened_0 : decode cX4_readOpened 0 = .ok (.aload_n 0, 1) := by decide +kernel
theorem dX4_readOpened_1 : decode cX4_readOpened 1 = .ok (.dup, 1) := by decide +kernel
theorem dX4_readOpened_2 : decode cX4_readOpened 2 = .ok (.getfield 39, 3) := by decide +kernel
theorem dX4_readOpened_5 : decode cX4_readOpened 5 = .ok (.iconst 1, 1) := by decide +kernel
theorem dX4_readOpened_6 : decode cX4_readOpened 6 = .ok (.iadd, 1) := by decide +kernel
theorem dX4_readOpened_7 : decode cX4_readOpened 7 = .ok (.putfield 39, 3) := by decide +kernel
theorem dX4_readOpened_10 : decode cX4_readOpened 10 = .ok (.iload_n 1, 1) := by decide +kernel
theorem dX4_readOpened_11 : decode cX4_readOpened 11 = .ok (.bipush 33, 2) := by decide +kernel
theorem dX4_readOpened_13 : decode cX4_readOpened 13 = .ok (.if_icmp .ne 17, 3) := by decide +kernel
theorem dX4_readOpened_16 : decode cX4_readOpened 16 = .ok (.aload_n 0, 1) := by decide +kernel
theorem dX4_readOpened_17 : decode cX4_readOpened 17 = .ok (.iload_n 2, 1) := by decide +kernel
theorem dX4_readOpened_18 : decode cX4_readOpened 18 = .ok (.invokevirtual 46, 3) := by decide +kernel
theorem dX4_readOpened_21 : decode cX4_readOpened 21 = .ok (.istore_n 3, 1) := by decide +kernel
theorem dX4_readOpened_22 : decode cX4_readOpened 22 = .ok (.aload_n 0, 1) := by decide +kernel
theorem dX4_readOpened_23 : decode cX4_readOpened 23 = .ok (.bipush (-33), 2) := by decide +kernel
theorem dX4_readOpened_25 : decode cX4_readOpened 25 = .ok (.invokevirtual 58, 3) := by decide +kernel
theorem dX4_readOpened_28 : decode cX4_readOpened 28 = .ok (.iload_n 3, 1) := by decide +kernel
theorem dX4_readOpened_29 : decode cX4_readOpened 29 = .ok (.ireturn, 1) := by decide +kernel
theorem dX4_readOpened_30 : decode cX4_readOpened 30 = .ok (.aload_n 0, 1) := by decide +kernel
theorem dX4_readOpened_31 : decode cX4_readOpened 31 = .ok (.iconst 0, 1) := by decide +kernel
theorem dX4_readOpened_32 : decode cX4_readOpened 32 = .ok (.iload_n 2, 1) := by decide +kernel
theorem dX4_readOpened_33 : decode cX4_readOpened 33 = .ok (.invokevirtual 42, 3) := by decide +kernel
theorem dX4_readOpened_36 : decode cX4_readOpened 36 = .ok (.ifCond .eq 12, 3) := by decide +kernel
theorem dX4_readOpened_39 : decode cX4_readOpened 39 = .ok (.aload_n 0, 1) := by decide +kernel
theorem dX4_readOpened_40 : decode cX4_readOpened 40 = .ok (.invokevirtual 50, 3) := by decide +kernel
theorem dX4_readOpened_43 : decode cX4_readOpened 43 = .ok (.bipush 41, 2) := by decide +kernel
theorem dX4_readOpened_45 : decode cX4_readOpened 45 = .ok (.if_icmp .eq 5, 3) := by decide +kernel
theorem dX4_readOpened_48 : decode cX4_readOpened 48 = .ok (.iconst 0, 1) := by decide +kernel
theorem dX4_readOpened_49 : decode cX4_readOpened 49 = .ok (.ireturn, 1) := by decide +kernel
theorem dX4_readOpened_50 : decode cX4_readOpened 50 = .ok (.aload_n 0, 1) := by decide +kernel
theorem dX4_readOpened_51 : decode cX4_readOpened 51 = .ok (.dup, 1) := by decide +kernel
theorem dX4_readOpened_52 : decode cX4_readOpened 52 = .ok (.getfield 39, 3) := by decide +kernel
theorem dX4_readOpened_55 : decode cX4_readOpened 55 = .ok (.iconst 1, 1) := by decide +kernel
theorem dX4_readOpened_56 : decode cX4_readOpened 56 = .ok (.iadd, 1) := by decide +kernel
theorem dX4_readOpened_57 : decode cX4_readOpened 57 = .ok (.putfield 39, 3) := by decide +kernel
theorem dX4_readOpened_60 : decode cX4_readOpened 60 = .ok (.iconst 1, 1) := by decide +kernel
theorem dX4_readOpened_61 : decode cX4_readOpened 61 = .ok (.ireturn, 1) := by decide +kernel
theorem dX4_isDigit_0 : decode cX4_isDigit 0 = .ok (.iload_n 0, 1) := by decide +kernel
theorem dX4_isDigit_1 : decode cX4_isDigit 1 = .ok (.bipush 48, 2) := by decide +kernel
theorem dX4_isDigit_3 : decode cX4_isDigit 3 = .ok (.if_icmp .lt 13, 3) := by decide +kernel
theorem dX4_isDigit_6 : decode cX4_isDigit 6 = .ok (.iload_n 0, 1) := by decide +kernel
theorem dX4_isDigit_7 : decode cX4_isDigit 7 = .ok (.bipush 57, 2) := by decide +kernel
theorem dX4_isDigit_9 : decode cX4_isDigit 9 = .ok (.if_icmp .gt 7, 3) := by decide +kernel
theorem dX4_isDigit_12 : decode cX4_isDigit 12 = .ok (.iconst 1, 1) := by decide +kernel
theorem dX4_isDigit_13 : decode cX4_isDigit 13 = .ok (.goto 4, 3) := by decide +kernel
theorem dX4_isDigit_16 : decode cX4_isDigit 16 = .ok (.iconst 0, 1) := by decide +kernel
theorem dX4_isDigit_17 : decode cX4_isDigit 17 = .ok (.ireturn, 1) := by decide +kernel
theorem dX4_readNumber_0 : decode cX4_readNumber 0 = .ok (.iconst 0, 1) := by decide +kernel
theorem dX4_readNumber_1 : decode cX4_readNumber 1 = .ok (.istore_n 1, 1) := by decide +kernel
theorem dX4_readNumber_2 : decode cX4_readNumber 2 = .ok (.iconst 0, 1) := by decide +kernel
theorem dX4_readNumber_3 : decode cX4_readNumber 3 = .ok (.istore_n 2, 1) := by decide +kernel
theorem dX4_readNumber_4 : decode cX4_readNumber 4 = .ok (.iload_n 2, 1) := by decide +kernel
theorem dX4_readNumber_5 : decode cX4_readNumber 5 = .ok (.iconst 4, 1) := by decide +kernel
theorem dX4_readNumber_6 : decode cX4_readNumber 6 = .ok (.if_icmp .ge 42, 3) := by decide +kernel
theorem dX4_readNumber_9 : decode cX4_readNumber 9 = .ok (.aload_n 0, 1) := by decide +kernel
theorem dX4_readNumber_10 : decode cX4_readNumber 10 = .ok (.invokevirtual 50, 3) := by decide +kernel
theorem dX4_readNumber_13 : decode cX4_readNumber 13 = .ok (.invokestatic 62, 3) := by decide +kernel
theorem dX4_readNumber_16 : decode cX4_readNumber 16 = .ok (.ifCond .eq 32, 3) := by decide +kernel
theorem dX4_readNumber_19 : decode cX4_readNumber 19 = .ok (.iload_n 1, 1) := by decide +kernel
theorem dX4_readNumber_20 : decode cX4_readNumber 20 = .ok (.bipush 10, 2) := by decide +kernel
theorem dX4_readNumber_22 : decode cX4_readNumber 22 = .ok (.imul, 1) := by decide +kernel
theorem dX4_readNumber_23 : decode cX4_readNumber 23 = .ok (.aload_n 0, 1) := by decide +kernel
theorem dX4_readNumber_24 : decode cX4_readNumber 24 = .ok (.invokevirtual 50, 3) := by decide +kernel
theorem dX4_readNumber_27 : decode cX4_readNumber 27 = .ok (.iadd, 1) := by decide +kernel
theorem dX4_readNumber_28 : decode cX4_readNumber 28 = .ok (.bipush 48, 2) := by decide +kernel
theorem dX4_readNumber_30 : decode cX4_readNumber 30 = .ok (.isub, 1) := by decide +kernel
theorem dX4_readNumber_31 : decode cX4_readNumber 31 = .ok (.istore_n 1, 1) := by decide +kernel
theorem dX4_readNumber_32 : decode cX4_readNumber 32 = .ok (.aload_n 0, 1) := by decide +kernel
theorem dX4_readNumber_33 : decode cX4_readNumber 33 = .ok (.dup, 1) := by decide +kernel
theorem dX4_readNumber_34 : decode cX4_readNumber 34 = .ok (.getfield 39, 3) := by decide +kernel
theorem dX4_readNumber_37 : decode cX4_readNumber 37 = .ok (.iconst 1, 1) := by decide +kernel
theorem dX4_readNumber_38 : decode cX4_readNumber 38 = .ok (.iadd, 1) := by decide +kernel
theorem dX4_readNumber_39 : decode cX4_readNumber 39 = .ok (.putfield 39, 3) := by decide +kernel
theorem dX4_readNumber_42 : decode cX4_readNumber 42 = .ok (.iinc 2 1, 3) := by decide +kernel
theorem dX4_readNumber_45 : decode cX4_readNumber 45 = .ok (.goto (-41), 3) := by decide +kernel
theorem dX4_readNumber_48 : decode cX4_readNumber 48 = .ok (.aload_n 0, 1) := by decide +kernel
theorem dX4_readNumber_49 : decode cX4_readNumber 49 = .ok (.iload_n 1, 1) := by decide +kernel
theorem dX4_readNumber_50 : decode cX4_readNumber 50 = .ok (.invokevirtual 58, 3) := by decide +kernel
theorem dX4_readNumber_53 : decode cX4_readNumber 53 = .ok (.return_, 1) := by decide +kernel
