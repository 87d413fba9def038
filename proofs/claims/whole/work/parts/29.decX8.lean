theorem dX8_init_0 : decode cX8_init 0 = .ok (.aload_n 0, 1) := by decide +kernel
theorem dX8_init_1 : decode cX8_init 1 = .ok (.invokespecial 1, 3) := by decide +kernel
theorem dX8_init_4 : decode cX8_init 4 = .ok (.aload_n 0, 1) := by decide +kernel
theorem dX8_init_5 : decode cX8_init 5 = .ok (.new 7, 3) := by decide +kernel
theorem dX8_init_8 : decode cX8_init 8 = .ok (.dup, 1) := by decide +kernel
theorem dX8_init_9 : decode cX8_init 9 = .ok (.invokespecial 9, 3) := by decide +kernel
theorem dX8_init_12 : decode cX8_init 12 = .ok (.putfield 10, 3) := by decide +kernel
theorem dX8_init_15 : decode cX8_init 15 = .ok (.aload_n 0, 1) := by decide +kernel
theorem dX8_init_16 : decode cX8_init 16 = .ok (.new 7, 3) := by decide +kernel
theorem dX8_init_19 : decode cX8_init 19 = .ok (.dup, 1) := by decide +kernel
theorem dX8_init_20 : decode cX8_init 20 = .ok (.invokespecial 9, 3) := by decide +kernel
theorem dX8_init_23 : decode cX8_init 23 = .ok (.putfield 16, 3) := by decide +kernel
theorem dX8_init_26 : decode cX8_init 26 = .ok (.aload_n 0, 1) := by decide +kernel
theorem dX8_init_27 : decode cX8_init 27 = .ok (.new 19, 3) := by decide +kernel
theorem dX8_init_30 : decode cX8_init 30 = .ok (.dup, 1) := by decide +kernel
theorem dX8_init_31 : decode cX8_init 31 = .ok (.aload_n 0, 1) := by decide +kernel
theorem dX8_init_32 : decode cX8_init 32 = .ok (.getfield 10, 3) := by decide +kernel
theorem dX8_init_35 : decode cX8_init 35 = .ok (.getfield 21, 3) := by decide +kernel
theorem dX8_init_38 : decode cX8_init 38 = .ok (.aload_n 0, 1) := by decide +kernel
theorem dX8_init_39 : decode cX8_init 39 = .ok (.getfield 10, 3) := by decide +kernel
theorem dX8_init_42 : decode cX8_init 42 = .ok (.getfield 25, 3) := by decide +kernel
theorem dX8_init_45 : decode cX8_init 45 = .ok (.invokespecial 28, 3) := by decide +kernel
theorem dX8_init_48 : decode cX8_init 48 = .ok (.putfield 31, 3) := by decide +kernel
theorem dX8_init_51 : decode cX8_init 51 = .ok (.aload_n 0, 1) := by decide +kernel
theorem dX8_init_52 : decode cX8_init 52 = .ok (.new 35, 3) := by decide +kernel
theorem dX8_init_55 : decode cX8_init 55 = .ok (.dup, 1) := by decide +kernel
theorem dX8_init_56 : decode cX8_init 56 = .ok (.aload_n 0, 1) := by decide +kernel
theorem dX8_init_57 : decode cX8_init 57 = .ok (.getfield 10, 3) := by decide +kernel
theorem dX8_init_60 : decode cX8_init 60 = .ok (.getfield 37, 3) := by decide +kernel
theorem dX8_init_63 : decode cX8_init 63 = .ok (.invokespecial 41, 3) := by decide +kernel
theorem dX8_init_66 : decode cX8_init 66 = .ok (.putfield 44, 3) := by decide +kernel
theorem dX8_init_69 : decode cX8_init 69 = .ok (.aload_n 0, 1) := by decide +kernel
theorem dX8_init_70 : decode cX8_init 70 = .ok (.new 48, 3) := by decide +kernel
theorem dX8_init_73 : decode cX8_init 73 = .ok (.dup, 1) := by decide +kernel
theorem dX8_init_74 : decode cX8_init 74 = .ok (.invokespecial 50, 3) := by decide +kernel
theorem dX8_init_77 : decode cX8_init 77 = .ok (.putfield 51, 3) := by decide +kernel
theorem dX8_init_80 : decode cX8_init 80 = .ok (.aload_n 0, 1) := by decide +kernel
theorem dX8_init_81 : decode cX8_init 81 = .ok (.iconst 4, 1) := by decide +kernel
theorem dX8_init_82 : decode cX8_init 82 = .ok (.anewarray 55, 3) := by decide +kernel
theorem dX8_init_85 : decode cX8_init 85 = .ok (.putfield 57, 3) := by decide +kernel
theorem dX8_init_88 : decode cX8_init 88 = .ok (.aload_n 0, 1) := by decide +kernel
theorem dX8_init_89 : decode cX8_init 89 = .ok (.bipush 6, 2) := by decide +kernel
theorem dX8_init_91 : decode cX8_init 91 = .ok (.newarray .int, 2) := by decide +kernel
theorem dX8_init_93 : decode cX8_init 93 = .ok (.putfield 61, 3) := by decide +kernel
theorem dX8_init_96 : decode cX8_init 96 = .ok (.iconst 0, 1) := by decide +kernel
theorem dX8_init_97 : decode cX8_init 97 = .ok (.istore_n 1, 1) := by decide +kernel
theorem dX8_init_98 : decode cX8_init 98 = .ok (.iload_n 1, 1) := by decide +kernel
theorem dX8_init_99 : decode cX8_init 99 = .ok (.iconst 4, 1) := by decide +kernel
theorem dX8_init_100 : decode cX8_init 100 = .ok (.if_icmp .ge 22, 3) := by decide +kernel
theorem dX8_init_103 : decode cX8_init 103 = .ok (.aload_n 0, 1) := by decide +kernel
theorem dX8_init_104 : decode cX8_init 104 = .ok (.getfield 57, 3) := by decide +kernel
theorem dX8_init_107 : decode cX8_init 107 = .ok (.iload_n 1, 1) := by decide +kernel
theorem dX8_init_108 : decode cX8_init 108 = .ok (.new 55, 3) := by decide +kernel
theorem dX8_init_111 : decode cX8_init 111 = .ok (.dup, 1) := by decide +kernel
theorem dX8_init_112 : decode cX8_init 112 = .ok (.invokespecial 64, 3) := by decide +kernel
theorem dX8_init_115 : decode cX8_init 115 = .ok (.aastore, 1) := by decide +kernel
theorem dX8_init_116 : decode cX8_init 116 = .ok (.iinc 1 1, 3) := by decide +kernel
theorem dX8_init_119 : decode cX8_init 119 = .ok (.goto (-21), 3) := by decide +kernel
theorem dX8_init_122 : decode cX8_init 122 = .ok (.return_, 1) := by decide +kernel
theorem dX8_rope_0 : decode cX8_rope 0 = .ok (.iload_n 1, 1) := by decide +kernel
theorem dX8_rope_1 : decode cX8_rope 1 = .ok (.iconst 2, 1) := by decide +kernel
theorem dX8_rope_2 : decode cX8_rope 2 = .ok (.bipush 8, 2) := by decide +kernel
theorem dX8_rope_4 : decode cX8_rope 4 = .ok (.invokestatic 65, 3) := by decide +kernel
theorem dX8_rope_7 : decode cX8_rope 7 = .ok (.ifCond .ne 9, 3) := by decide +kernel
theorem dX8_rope_10 : decode cX8_rope 10 = .ok (.aload_n 0, 1) := by decide +kernel
theorem dX8_rope_11 : decode cX8_rope 11 = .ok (.iconst 1, 1) := by decide +kernel
theorem dX8_rope_12 : decode cX8_rope 12 = .ok (.invokevirtual 69, 3) := by decide +kernel
theorem dX8_rope_15 : decode cX8_rope 15 = .ok (.ireturn, 1) := by decide +kernel
theorem dX8_rope_16 : decode cX8_rope 16 = .ok (.aload_n 0, 1) := by decide +kernel
theorem dX8_rope_17 : decode cX8_rope 17 = .ok (.getfield 10, 3) := by decide +kernel
theorem dX8_rope_20 : decode cX8_rope 20 = .ok (.getfield 73, 3) := by decide +kernel
theorem dX8_rope_23 : decode cX8_rope 23 = .ok (.getfield 76, 3) := by decide +kernel
theorem dX8_rope_26 : decode cX8_rope 26 = .ok (.ifCond .le 9, 3) := by decide +kernel
theorem dX8_rope_29 : decode cX8_rope 29 = .ok (.aload_n 0, 1) := by decide +kernel
theorem dX8_rope_30 : decode cX8_rope 30 = .ok (.iconst 3, 1) := by decide +kernel
theorem dX8_rope_31 : decode cX8_rope 31 = .ok (.invokevirtual 69, 3) := by decide +kernel
theorem dX8_rope_34 : decode cX8_rope 34 = .ok (.ireturn, 1) := by decide +kernel
theorem dX8_rope_35 : decode cX8_rope 35 = .ok (.aload_n 0, 1) := by decide +kernel
theorem dX8_rope_36 : decode cX8_rope 36 = .ok (.getfield 10, 3) := by decide +kernel
theorem dX8_rope_39 : decode cX8_rope 39 = .ok (.getfield 73, 3) := by decide +kernel
theorem dX8_rope_42 : decode cX8_rope 42 = .ok (.getfield 80, 3) := by decide +kernel
theorem dX8_rope_45 : decode cX8_rope 45 = .ok (.istore_n 2, 1) := by decide +kernel
theorem dX8_rope_46 : decode cX8_rope 46 = .ok (.aload_n 0, 1) := by decide +kernel
theorem dX8_rope_47 : decode cX8_rope 47 = .ok (.getfield 10, 3) := by decide +kernel
theorem dX8_rope_50 : decode cX8_rope 50 = .ok (.getfield 73, 3) := by decide +kernel
theorem dX8_rope_53 : decode cX8_rope 53 = .ok (.iload_n 1, 1) := by decide +kernel
theorem dX8_rope_54 : decode cX8_rope 54 = .ok (.invokevirtual 83, 3) := by decide +kernel
theorem dX8_rope_57 : decode cX8_rope 57 = .ok (.iload_n 2, 1) := by decide +kernel
theorem dX8_rope_58 : decode cX8_rope 58 = .ok (.ireturn, 1) := by decide +kernel
theorem dX8_rhyme_0 : decode cX8_rhyme 0 = .ok (.iload_n 1, 1) := by decide +kernel
theorem dX8_rhyme_1 : decode cX8_rhyme 1 = .ok (.iconst 1, 1) := by decide +kernel
theorem dX8_rhyme_2 : decode cX8_rhyme 2 = .ok (.bipush 16, 2) := by decide +kernel
theorem dX8_rhyme_4 : decode cX8_rhyme 4 = .ok (.invokestatic 65, 3) := by decide +kernel
theorem dX8_rhyme_7 : decode cX8_rhyme 7 = .ok (.ifCond .eq 11, 3) := by decide +kernel
theorem dX8_rhyme_10 : decode cX8_rhyme 10 = .ok (.iload_n 2, 1) := by decide +kernel
theorem dX8_rhyme_11 : decode cX8_rhyme 11 = .ok (.iload_n 1, 1) := by decide +kernel
theorem dX8_rhyme_12 : decode cX8_rhyme 12 = .ok (.invokestatic 87, 3) := by decide +kernel
theorem dX8_rhyme_15 : decode cX8_rhyme 15 = .ok (.ifCond .ne 9, 3) := by decide +kernel
theorem dX8_rhyme_18 : decode cX8_rhyme 18 = .ok (.aload_n 0, 1) := by decide +kernel
theorem dX8_rhyme_19 : decode cX8_rhyme 19 = .ok (.iconst 1, 1) := by decide +kernel
theorem dX8_rhyme_20 : decode cX8_rhyme 20 = .ok (.invokevirtual 69, 3) := by decide +kernel
theorem dX8_rhyme_23 : decode cX8_rhyme 23 = .ok (.ireturn, 1) := by decide +kernel
theorem dX8_rhyme_24 : decode cX8_rhyme 24 = .ok (.aload_n 0, 1) := by decide +kernel
theorem dX8_rhyme_25 : decode cX8_rhyme 25 = .ok (.getfield 10, 3) := by decide +kernel
theorem dX8_rhyme_28 : decode cX8_rhyme 28 = .ok (.getfield 73, 3) := by decide +kernel
theorem dX8_rhyme_31 : decode cX8_rhyme 31 = .ok (.getfield 91, 3) := by decide +kernel
theorem dX8_rhyme_34 : decode cX8_rhyme 34 = .ok (.istore_n 3, 1) := by decide +kernel
theorem dX8_rhyme_35 : decode cX8_rhyme 35 = .ok (.aload_n 0, 1) := by decide +kernel
theorem dX8_rhyme_36 : decode cX8_rhyme 36 = .ok (.getfield 10, 3) := by decide +kernel
theorem dX8_rhyme_39 : decode cX8_rhyme 39 = .ok (.getfield 73, 3) := by decide +kernel
theorem dX8_rhyme_42 : decode cX8_rhyme 42 = .ok (.iload_n 1, 1) := by decide +kernel
theorem dX8_rhyme_43 : decode cX8_rhyme 43 = .ok (.putfield 91, 3) := by decide +kernel
theorem dX8_rhyme_46 : decode cX8_rhyme 46 = .ok (.aload_n 0, 1) := by decide +kernel
theorem dX8_rhyme_47 : decode cX8_rhyme 47 = .ok (.getfield 10, 3) := by decide +kernel
theorem dX8_rhyme_50 : decode cX8_rhyme 50 = .ok (.getfield 73, 3) := by decide +kernel
theorem dX8_rhyme_53 : decode cX8_rhyme 53 = .ok (.iload_n 2, 1) := by decide +kernel
theorem dX8_rhyme_54 : decode cX8_rhyme 54 = .ok (.putfield 94, 3) := by decide +kernel
theorem dX8_rhyme_57 : decode cX8_rhyme 57 = .ok (.iload_n 3, 1) := by decide +kernel
theorem dX8_rhyme_58 : decode cX8_rhyme 58 = .ok (.ireturn, 1) := by decide +kernel
theorem dX8_turner_0 : decode cX8_turner 0 = .ok (.iload_n 1, 1) := by decide +kernel
theorem dX8_turner_1 : decode cX8_turner 1 = .ok (.iconst 1, 1) := by decide +kernel
theorem dX8_turner_2 : decode cX8_turner 2 = .ok (.bipush 99, 2) := by decide +kernel
theorem dX8_turner_4 : decode cX8_turner 4 = .ok (.invokestatic 65, 3) := by decide +kernel
theorem dX8_turner_7 : decode cX8_turner 7 = .ok (.ifCond .ne 9, 3) := by decide +kernel
theorem dX8_turner_10 : decode cX8_turner 10 = .ok (.aload_n 0, 1) := by decide +kernel
theorem dX8_turner_11 : decode cX8_turner 11 = .ok (.iconst 1, 1) := by decide +kernel
theorem dX8_turner_12 : decode cX8_turner 12 = .ok (.invokevirtual 69, 3) := by decide +kernel
theorem dX8_turner_15 : decode cX8_turner 15 = .ok (.ireturn, 1) := by decide +kernel
theorem dX8_turner_16 : decode cX8_turner 16 = .ok (.aload_n 0, 1) := by decide +kernel
theorem dX8_turner_17 : decode cX8_turner 17 = .ok (.getfield 10, 3) := by decide +kernel
theorem dX8_turner_20 : decode cX8_turner 20 = .ok (.getfield 73, 3) := by decide +kernel
theorem dX8_turner_23 : decode cX8_turner 23 = .ok (.getfield 97, 3) := by decide +kernel
theorem dX8_turner_26 : decode cX8_turner 26 = .ok (.iconst 4, 1) := by decide +kernel
theorem dX8_turner_27 : decode cX8_turner 27 = .ok (.if_icmp .lt 9, 3) := by decide +kernel
theorem dX8_turner_30 : decode cX8_turner 30 = .ok (.aload_n 0, 1) := by decide +kernel
theorem dX8_turner_31 : decode cX8_turner 31 = .ok (.iconst 4, 1) := by decide +kernel
theorem dX8_turner_32 : decode cX8_turner 32 = .ok (.invokevirtual 69, 3) := by decide +kernel
theorem dX8_turner_35 : decode cX8_turner 35 = .ok (.ireturn, 1) := by decide +kernel
theorem dX8_turner_36 : decode cX8_turner 36 = .ok (.aload_n 0, 1) := by decide +kernel
theorem dX8_turner_37 : decode cX8_turner 37 = .ok (.getfield 10, 3) := by decide +kernel
theorem dX8_turner_40 : decode cX8_turner 40 = .ok (.getfield 73, 3) := by decide +kernel
theorem dX8_turner_43 : decode cX8_turner 43 = .ok (.iload_n 1, 1) := by decide +kernel
theorem dX8_turner_44 : decode cX8_turner 44 = .ok (.invokevirtual 100, 3) := by decide +kernel
theorem dX8_turner_47 : decode cX8_turner 47 = .ok (.ireturn, 1) := by decide +kernel
theorem dX8_ofTurner_0 : decode cX8_ofTurner 0 = .ok (.aload_n 0, 1) := by decide +kernel
theorem dX8_ofTurner_1 : decode cX8_ofTurner 1 = .ok (.iload_n 1, 1) := by decide +kernel
theorem dX8_ofTurner_2 : decode cX8_ofTurner 2 = .ok (.invokevirtual 103, 3) := by decide +kernel
theorem dX8_ofTurner_5 : decode cX8_ofTurner 5 = .ok (.ifCond .eq 12, 3) := by decide +kernel
theorem dX8_ofTurner_8 : decode cX8_ofTurner 8 = .ok (.iload_n 2, 1) := by decide +kernel
theorem dX8_ofTurner_9 : decode cX8_ofTurner 9 = .ok (.iconst 0, 1) := by decide +kernel
theorem dX8_ofTurner_10 : decode cX8_ofTurner 10 = .ok (.iconst 2, 1) := by decide +kernel
theorem dX8_ofTurner_11 : decode cX8_ofTurner 11 = .ok (.invokestatic 65, 3) := by decide +kernel
theorem dX8_ofTurner_14 : decode cX8_ofTurner 14 = .ok (.ifCond .ne 9, 3) := by decide +kernel
theorem dX8_ofTurner_17 : decode cX8_ofTurner 17 = .ok (.aload_n 0, 1) := by decide +kernel
theorem dX8_ofTurner_18 : decode cX8_ofTurner 18 = .ok (.iconst 1, 1) := by decide +kernel
theorem dX8_ofTurner_19 : decode cX8_ofTurner 19 = .ok (.invokevirtual 69, 3) := by decide +kernel
theorem dX8_ofTurner_22 : decode cX8_ofTurner 22 = .ok (.ireturn, 1) := by decide +kernel
theorem dX8_ofTurner_23 : decode cX8_ofTurner 23 = .ok (.aload_n 0, 1) := by decide +kernel
theorem dX8_ofTurner_24 : decode cX8_ofTurner 24 = .ok (.getfield 10, 3) := by decide +kernel
theorem dX8_ofTurner_27 : decode cX8_ofTurner 27 = .ok (.getfield 73, 3) := by decide +kernel
theorem dX8_ofTurner_30 : decode cX8_ofTurner 30 = .ok (.getfield 107, 3) := by decide +kernel
theorem dX8_ofTurner_33 : decode cX8_ofTurner 33 = .ok (.iload_n 1, 1) := by decide +kernel
theorem dX8_ofTurner_34 : decode cX8_ofTurner 34 = .ok (.aaload, 1) := by decide +kernel
theorem dX8_ofTurner_35 : decode cX8_ofTurner 35 = .ok (.astore_n 3, 1) := by decide +kernel
theorem dX8_ofTurner_36 : decode cX8_ofTurner 36 = .ok (.iload_n 2, 1) := by decide +kernel
theorem dX8_ofTurner_37 : decode cX8_ofTurner 37 = .ok (.ifCond .ne 8, 3) := by decide +kernel
theorem dX8_ofTurner_40 : decode cX8_ofTurner 40 = .ok (.aload_n 3, 1) := by decide +kernel
theorem dX8_ofTurner_41 : decode cX8_ofTurner 41 = .ok (.getfield 111, 3) := by decide +kernel
theorem dX8_ofTurner_44 : decode cX8_ofTurner 44 = .ok (.ireturn, 1) := by decide +kernel
theorem dX8_ofTurner_45 : decode cX8_ofTurner 45 = .ok (.iload_n 2, 1) := by decide +kernel
theorem dX8_ofTurner_46 : decode cX8_ofTurner 46 = .ok (.iconst 1, 1) := by decide +kernel
theorem dX8_ofTurner_47 : decode cX8_ofTurner 47 = .ok (.if_icmp .ne 10, 3) := by decide +kernel
theorem dX8_ofTurner_50 : decode cX8_ofTurner 50 = .ok (.aload_n 3, 1) := by decide +kernel
theorem dX8_ofTurner_51 : decode cX8_ofTurner 51 = .ok (.getfield 116, 3) := by decide +kernel
theorem dX8_ofTurner_54 : decode cX8_ofTurner 54 = .ok (.goto 25, 3) := by decide +kernel
theorem dX8_ofTurner_57 : decode cX8_ofTurner 57 = .ok (.aload_n 0, 1) := by decide +kernel
theorem dX8_ofTurner_58 : decode cX8_ofTurner 58 = .ok (.getfield 10, 3) := by decide +kernel
theorem dX8_ofTurner_61 : decode cX8_ofTurner 61 = .ok (.getfield 73, 3) := by decide +kernel
theorem dX8_ofTurner_64 : decode cX8_ofTurner 64 = .ok (.getfield 119, 3) := by decide +kernel
theorem dX8_ofTurner_67 : decode cX8_ofTurner 67 = .ok (.iload_n 1, 1) := by decide +kernel
theorem dX8_ofTurner_68 : decode cX8_ofTurner 68 = .ok (.if_icmp .ne 7, 3) := by decide +kernel
theorem dX8_ofTurner_71 : decode cX8_ofTurner 71 = .ok (.iconst 1, 1) := by decide +kernel
theorem dX8_ofTurner_72 : decode cX8_ofTurner 72 = .ok (.goto 4, 3) := by decide +kernel
theorem dX8_ofTurner_75 : decode cX8_ofTurner 75 = .ok (.iconst 0, 1) := by decide +kernel
theorem dX8_ofTurner_76 : decode cX8_ofTurner 76 = .ok (.invokestatic 122, 3) := by decide +kernel
theorem dX8_ofTurner_79 : decode cX8_ofTurner 79 = .ok (.ireturn, 1) := by decide +kernel
theorem dX8_relieve_0 : decode cX8_relieve 0 = .ok (.aload_n 0, 1) := by decide +kernel
theorem dX8_relieve_1 : decode cX8_relieve 1 = .ok (.iload_n 1, 1) := by decide +kernel
theorem dX8_relieve_2 : decode cX8_relieve 2 = .ok (.invokevirtual 103, 3) := by decide +kernel
theorem dX8_relieve_5 : decode cX8_relieve 5 = .ok (.ifCond .ne 9, 3) := by decide +kernel
theorem dX8_relieve_8 : decode cX8_relieve 8 = .ok (.aload_n 0, 1) := by decide +kernel
theorem dX8_relieve_9 : decode cX8_relieve 9 = .ok (.iconst 1, 1) := by decide +kernel
theorem dX8_relieve_10 : decode cX8_relieve 10 = .ok (.invokevirtual 69, 3) := by decide +kernel
theorem dX8_relieve_13 : decode cX8_relieve 13 = .ok (.ireturn, 1) := by decide +kernel
theorem dX8_relieve_14 : decode cX8_relieve 14 = .ok (.aload_n 0, 1) := by decide +kernel
theorem dX8_relieve_15 : decode cX8_relieve 15 = .ok (.getfield 10, 3) := by decide +kernel
theorem dX8_relieve_18 : decode cX8_relieve 18 = .ok (.getfield 73, 3) := by decide +kernel
theorem dX8_relieve_21 : decode cX8_relieve 21 = .ok (.getfield 119, 3) := by decide +kernel
theorem dX8_relieve_24 : decode cX8_relieve 24 = .ok (.istore_n 2, 1) := by decide +kernel
theorem dX8_relieve_25 : decode cX8_relieve 25 = .ok (.aload_n 0, 1) := by decide +kernel
theorem dX8_relieve_26 : decode cX8_relieve 26 = .ok (.getfield 10, 3) := by decide +kernel
theorem dX8_relieve_29 : decode cX8_relieve 29 = .ok (.getfield 73, 3) := by decide +kernel
theorem dX8_relieve_32 : decode cX8_relieve 32 = .ok (.iload_n 1, 1) := by decide +kernel
theorem dX8_relieve_33 : decode cX8_relieve 33 = .ok (.putfield 119, 3) := by decide +kernel
theorem dX8_relieve_36 : decode cX8_relieve 36 = .ok (.iload_n 2, 1) := by decide +kernel
theorem dX8_relieve_37 : decode cX8_relieve 37 = .ok (.ireturn, 1) := by decide +kernel
theorem dX8_crosser_0 : decode cX8_crosser 0 = .ok (.iload_n 1, 1) := by decide +kernel
theorem dX8_crosser_1 : decode cX8_crosser 1 = .ok (.invokestatic 126, 3) := by decide +kernel
theorem dX8_crosser_4 : decode cX8_crosser 4 = .ok (.ifCond .eq 21, 3) := by decide +kernel
theorem dX8_crosser_7 : decode cX8_crosser 7 = .ok (.iload_n 2, 1) := by decide +kernel
theorem dX8_crosser_8 : decode cX8_crosser 8 = .ok (.iconst 0, 1) := by decide +kernel
theorem dX8_crosser_9 : decode cX8_crosser 9 = .ok (.bipush 9, 2) := by decide +kernel
theorem dX8_crosser_11 : decode cX8_crosser 11 = .ok (.invokestatic 65, 3) := by decide +kernel
theorem dX8_crosser_14 : decode cX8_crosser 14 = .ok (.ifCond .eq 11, 3) := by decide +kernel
theorem dX8_crosser_17 : decode cX8_crosser 17 = .ok (.aload_n 0, 1) := by decide +kernel
theorem dX8_crosser_18 : decode cX8_crosser 18 = .ok (.iload_n 3, 1) := by decide +kernel
theorem dX8_crosser_19 : decode cX8_crosser 19 = .ok (.invokevirtual 129, 3) := by decide +kernel
theorem dX8_crosser_22 : decode cX8_crosser 22 = .ok (.ifCond .ne 9, 3) := by decide +kernel
theorem dX8_crosser_25 : decode cX8_crosser 25 = .ok (.aload_n 0, 1) := by decide +kernel
theorem dX8_crosser_26 : decode cX8_crosser 26 = .ok (.iconst 1, 1) := by decide +kernel
theorem dX8_crosser_27 : decode cX8_crosser 27 = .ok (.invokevirtual 69, 3) := by decide +kernel
theorem dX8_crosser_30 : decode cX8_crosser 30 = .ok (.ireturn, 1) := by decide +kernel
theorem dX8_crosser_31 : decode cX8_crosser 31 = .ok (.aload_n 0, 1) := by decide +kernel
theorem dX8_crosser_32 : decode cX8_crosser 32 = .ok (.getfield 10, 3) := by decide +kernel
theorem dX8_crosser_35 : decode cX8_crosser 35 = .ok (.getfield 73, 3) := by decide +kernel
theorem dX8_crosser_38 : decode cX8_crosser 38 = .ok (.getfield 76, 3) := by decide +kernel
theorem dX8_crosser_41 : decode cX8_crosser 41 = .ok (.bipush 8, 2) := by decide +kernel
theorem dX8_crosser_43 : decode cX8_crosser 43 = .ok (.if_icmp .lt 9, 3) := by decide +kernel
theorem dX8_crosser_46 : decode cX8_crosser 46 = .ok (.aload_n 0, 1) := by decide +kernel
theorem dX8_crosser_47 : decode cX8_crosser 47 = .ok (.iconst 4, 1) := by decide +kernel
theorem dX8_crosser_48 : decode cX8_crosser 48 = .ok (.invokevirtual 69, 3) := by decide +kernel
theorem dX8_crosser_51 : decode cX8_crosser 51 = .ok (.ireturn, 1) := by decide +kernel
theorem dX8_crosser_52 : decode cX8_crosser 52 = .ok (.aload_n 0, 1) := by decide +kernel
theorem dX8_crosser_53 : decode cX8_crosser 53 = .ok (.getfield 10, 3) := by decide +kernel
theorem dX8_crosser_56 : decode cX8_crosser 56 = .ok (.getfield 73, 3) := by decide +kernel
theorem dX8_crosser_59 : decode cX8_crosser 59 = .ok (.iload_n 1, 1) := by decide +kernel
theorem dX8_crosser_60 : decode cX8_crosser 60 = .ok (.iload_n 2, 1) := by decide +kernel
theorem dX8_crosser_61 : decode cX8_crosser 61 = .ok (.iload_n 3, 1) := by decide +kernel
theorem dX8_crosser_62 : decode cX8_crosser 62 = .ok (.invokevirtual 132, 3) := by decide +kernel
theorem dX8_crosser_65 : decode cX8_crosser 65 = .ok (.ireturn, 1) := by decide +kernel
theorem dX8_ofCrosser_0 : decode cX8_ofCrosser 0 = .ok (.aload_n 0, 1) := by decide +kernel
theorem dX8_ofCrosser_1 : decode cX8_ofCrosser 1 = .ok (.iload_n 1, 1) := by decide +kernel
theorem dX8_ofCrosser_2 : decode cX8_ofCrosser 2 = .ok (.invokevirtual 136, 3) := by decide +kernel
theorem dX8_ofCrosser_5 : decode cX8_ofCrosser 5 = .ok (.ifCond .ne 9, 3) := by decide +kernel
theorem dX8_ofCrosser_8 : decode cX8_ofCrosser 8 = .ok (.aload_n 0, 1) := by decide +kernel
theorem dX8_ofCrosser_9 : decode cX8_ofCrosser 9 = .ok (.iconst 1, 1) := by decide +kernel
theorem dX8_ofCrosser_10 : decode cX8_ofCrosser 10 = .ok (.invokevirtual 69, 3) := by decide +kernel
theorem dX8_ofCrosser_13 : decode cX8_ofCrosser 13 = .ok (.ireturn, 1) := by decide +kernel
theorem dX8_ofCrosser_14 : decode cX8_ofCrosser 14 = .ok (.aload_n 0, 1) := by decide +kernel
theorem dX8_ofCrosser_15 : decode cX8_ofCrosser 15 = .ok (.getfield 10, 3) := by decide +kernel
theorem dX8_ofCrosser_18 : decode cX8_ofCrosser 18 = .ok (.getfield 73, 3) := by decide +kernel
theorem dX8_ofCrosser_21 : decode cX8_ofCrosser 21 = .ok (.getfield 139, 3) := by decide +kernel
theorem dX8_ofCrosser_24 : decode cX8_ofCrosser 24 = .ok (.iload_n 1, 1) := by decide +kernel
theorem dX8_ofCrosser_25 : decode cX8_ofCrosser 25 = .ok (.aaload, 1) := by decide +kernel
theorem dX8_ofCrosser_26 : decode cX8_ofCrosser 26 = .ok (.astore_n 3, 1) := by decide +kernel
theorem dX8_ofCrosser_27 : decode cX8_ofCrosser 27 = .ok (.iload_n 2, 1) := by decide +kernel
theorem dX8_ofCrosser_28 : decode cX8_ofCrosser 28 = .ok (.tableswitch 123 0 9 #[56, 61, 66, 71, 76, 81, 86, 91, 103, 108], 56) := by decide +kernel
theorem dX8_ofCrosser_84 : decode cX8_ofCrosser 84 = .ok (.aload_n 3, 1) := by decide +kernel
theorem dX8_ofCrosser_85 : decode cX8_ofCrosser 85 = .ok (.getfield 143, 3) := by decide +kernel
theorem dX8_ofCrosser_88 : decode cX8_ofCrosser 88 = .ok (.ireturn, 1) := by decide +kernel
theorem dX8_ofCrosser_89 : decode cX8_ofCrosser 89 = .ok (.aload_n 3, 1) := by decide +kernel
theorem dX8_ofCrosser_90 : decode cX8_ofCrosser 90 = .ok (.getfield 148, 3) := by decide +kernel
theorem dX8_ofCrosser_93 : decode cX8_ofCrosser 93 = .ok (.ireturn, 1) := by decide +kernel
theorem dX8_ofCrosser_94 : decode cX8_ofCrosser 94 = .ok (.aload_n 3, 1) := by decide +kernel
theorem dX8_ofCrosser_95 : decode cX8_ofCrosser 95 = .ok (.getfield 151, 3) := by decide +kernel
theorem dX8_ofCrosser_98 : decode cX8_ofCrosser 98 = .ok (.ireturn, 1) := by decide +kernel
theorem dX8_ofCrosser_99 : decode cX8_ofCrosser 99 = .ok (.aload_n 3, 1) := by decide +kernel
theorem dX8_ofCrosser_100 : decode cX8_ofCrosser 100 = .ok (.getfield 154, 3) := by decide +kernel
theorem dX8_ofCrosser_103 : decode cX8_ofCrosser 103 = .ok (.ireturn, 1) := by decide +kernel
theorem dX8_ofCrosser_104 : decode cX8_ofCrosser 104 = .ok (.aload_n 3, 1) := by decide +kernel
theorem dX8_ofCrosser_105 : decode cX8_ofCrosser 105 = .ok (.getfield 157, 3) := by decide +kernel
theorem dX8_ofCrosser_108 : decode cX8_ofCrosser 108 = .ok (.ireturn, 1) := by decide +kernel
theorem dX8_ofCrosser_109 : decode cX8_ofCrosser 109 = .ok (.aload_n 3, 1) := by decide +kernel
theorem dX8_ofCrosser_110 : decode cX8_ofCrosser 110 = .ok (.getfield 160, 3) := by decide +kernel
theorem dX8_ofCrosser_113 : decode cX8_ofCrosser 113 = .ok (.ireturn, 1) := by decide +kernel
theorem dX8_ofCrosser_114 : decode cX8_ofCrosser 114 = .ok (.aload_n 3, 1) := by decide +kernel
theorem dX8_ofCrosser_115 : decode cX8_ofCrosser 115 = .ok (.getfield 163, 3) := by decide +kernel
theorem dX8_ofCrosser_118 : decode cX8_ofCrosser 118 = .ok (.ireturn, 1) := by decide +kernel
theorem dX8_ofCrosser_119 : decode cX8_ofCrosser 119 = .ok (.aload_n 0, 1) := by decide +kernel
theorem dX8_ofCrosser_120 : decode cX8_ofCrosser 120 = .ok (.getfield 10, 3) := by decide +kernel
theorem dX8_ofCrosser_123 : decode cX8_ofCrosser 123 = .ok (.getfield 73, 3) := by decide +kernel
theorem dX8_ofCrosser_126 : decode cX8_ofCrosser 126 = .ok (.aload_n 3, 1) := by decide +kernel
theorem dX8_ofCrosser_127 : decode cX8_ofCrosser 127 = .ok (.invokevirtual 166, 3) := by decide +kernel
theorem dX8_ofCrosser_130 : decode cX8_ofCrosser 130 = .ok (.ireturn, 1) := by decide +kernel
theorem dX8_ofCrosser_131 : decode cX8_ofCrosser 131 = .ok (.aload_n 3, 1) := by decide +kernel
theorem dX8_ofCrosser_132 : decode cX8_ofCrosser 132 = .ok (.invokevirtual 170, 3) := by decide +kernel
theorem dX8_ofCrosser_135 : decode cX8_ofCrosser 135 = .ok (.ireturn, 1) := by decide +kernel
theorem dX8_ofCrosser_136 : decode cX8_ofCrosser 136 = .ok (.aload_n 0, 1) := by decide +kernel
theorem dX8_ofCrosser_137 : decode cX8_ofCrosser 137 = .ok (.getfield 10, 3) := by decide +kernel
theorem dX8_ofCrosser_140 : decode cX8_ofCrosser 140 = .ok (.getfield 73, 3) := by decide +kernel
theorem dX8_ofCrosser_143 : decode cX8_ofCrosser 143 = .ok (.iload_n 1, 1) := by decide +kernel
theorem dX8_ofCrosser_144 : decode cX8_ofCrosser 144 = .ok (.invokevirtual 174, 3) := by decide +kernel
theorem dX8_ofCrosser_147 : decode cX8_ofCrosser 147 = .ok (.invokestatic 122, 3) := by decide +kernel
theorem dX8_ofCrosser_150 : decode cX8_ofCrosser 150 = .ok (.ireturn, 1) := by decide +kernel
theorem dX8_ofCrosser_151 : decode cX8_ofCrosser 151 = .ok (.aload_n 0, 1) := by decide +kernel
theorem dX8_ofCrosser_152 : decode cX8_ofCrosser 152 = .ok (.iconst 1, 1) := by decide +kernel
theorem dX8_ofCrosser_153 : decode cX8_ofCrosser 153 = .ok (.invokevirtual 69, 3) := by decide +kernel
theorem dX8_ofCrosser_156 : decode cX8_ofCrosser 156 = .ok (.ireturn, 1) := by decide +kernel
theorem dX8_change_0 : decode cX8_change 0 = .ok (.aload_n 0, 1) := by decide +kernel
theorem dX8_change_1 : decode cX8_change 1 = .ok (.iload_n 1, 1) := by decide +kernel
theorem dX8_change_2 : decode cX8_change 2 = .ok (.invokevirtual 136, 3) := by decide +kernel
theorem dX8_change_5 : decode cX8_change 5 = .ok (.ifCond .eq 12, 3) := by decide +kernel
theorem dX8_change_8 : decode cX8_change 8 = .ok (.aload_n 0, 1) := by decide +kernel
theorem dX8_change_9 : decode cX8_change 9 = .ok (.iload_n 2, 1) := by decide +kernel
theorem dX8_change_10 : decode cX8_change 10 = .ok (.iload_n 3, 1) := by decide +kernel
theorem dX8_change_11 : decode cX8_change 11 = .ok (.invokevirtual 177, 3) := by decide +kernel
theorem dX8_change_14 : decode cX8_change 14 = .ok (.ifCond .ne 9, 3) := by decide +kernel
theorem dX8_change_17 : decode cX8_change 17 = .ok (.aload_n 0, 1) := by decide +kernel
theorem dX8_change_18 : decode cX8_change 18 = .ok (.iconst 1, 1) := by decide +kernel
theorem dX8_change_19 : decode cX8_change 19 = .ok (.invokevirtual 69, 3) := by decide +kernel
theorem dX8_change_22 : decode cX8_change 22 = .ok (.ireturn, 1) := by decide +kernel
theorem dX8_change_23 : decode cX8_change 23 = .ok (.aload_n 0, 1) := by decide +kernel
theorem dX8_change_24 : decode cX8_change 24 = .ok (.getfield 10, 3) := by decide +kernel
theorem dX8_change_27 : decode cX8_change 27 = .ok (.getfield 73, 3) := by decide +kernel
theorem dX8_change_30 : decode cX8_change 30 = .ok (.getfield 139, 3) := by decide +kernel
theorem dX8_change_33 : decode cX8_change 33 = .ok (.iload_n 1, 1) := by decide +kernel
theorem dX8_change_34 : decode cX8_change 34 = .ok (.aaload, 1) := by decide +kernel
theorem dX8_change_35 : decode cX8_change 35 = .ok (.iload_n 2, 1) := by decide +kernel
theorem dX8_change_36 : decode cX8_change 36 = .ok (.iload_n 3, 1) := by decide +kernel
theorem dX8_change_37 : decode cX8_change 37 = .ok (.invokevirtual 180, 3) := by decide +kernel
theorem dX8_change_40 : decode cX8_change 40 = .ok (.ireturn, 1) := by decide +kernel
theorem dX8_become_0 : decode cX8_become 0 = .ok (.aload_n 0, 1) := by decide +kernel
theorem dX8_become_1 : decode cX8_become 1 = .ok (.iload_n 1, 1) := by decide +kernel
theorem dX8_become_2 : decode cX8_become 2 = .ok (.invokevirtual 136, 3) := by decide +kernel
theorem dX8_become_5 : decode cX8_become 5 = .ok (.ifCond .eq 10, 3) := by decide +kernel
theorem dX8_become_8 : decode cX8_become 8 = .ok (.iload_n 2, 1) := by decide +kernel
theorem dX8_become_9 : decode cX8_become 9 = .ok (.invokestatic 126, 3) := by decide +kernel
theorem dX8_become_12 : decode cX8_become 12 = .ok (.ifCond .ne 9, 3) := by decide +kernel
theorem dX8_become_15 : decode cX8_become 15 = .ok (.aload_n 0, 1) := by decide +kernel
theorem dX8_become_16 : decode cX8_become 16 = .ok (.iconst 1, 1) := by decide +kernel
theorem dX8_become_17 : decode cX8_become 17 = .ok (.invokevirtual 69, 3) := by decide +kernel
theorem dX8_become_20 : decode cX8_become 20 = .ok (.ireturn, 1) := by decide +kernel
theorem dX8_become_21 : decode cX8_become 21 = .ok (.aload_n 0, 1) := by decide +kernel
theorem dX8_become_22 : decode cX8_become 22 = .ok (.getfield 10, 3) := by decide +kernel
theorem dX8_become_25 : decode cX8_become 25 = .ok (.getfield 73, 3) := by decide +kernel
theorem dX8_become_28 : decode cX8_become 28 = .ok (.getfield 139, 3) := by decide +kernel
theorem dX8_become_31 : decode cX8_become 31 = .ok (.iload_n 1, 1) := by decide +kernel
theorem dX8_become_32 : decode cX8_become 32 = .ok (.aaload, 1) := by decide +kernel
theorem dX8_become_33 : decode cX8_become 33 = .ok (.astore_n 3, 1) := by decide +kernel
theorem dX8_become_34 : decode cX8_become 34 = .ok (.aload_n 3, 1) := by decide +kernel
theorem dX8_become_35 : decode cX8_become 35 = .ok (.getfield 143, 3) := by decide +kernel
theorem dX8_become_38 : decode cX8_become 38 = .ok (.istore 4, 2) := by decide +kernel
theorem dX8_become_40 : decode cX8_become 40 = .ok (.aload_n 3, 1) := by decide +kernel
theorem dX8_become_41 : decode cX8_become 41 = .ok (.iload_n 2, 1) := by decide +kernel
theorem dX8_become_42 : decode cX8_become 42 = .ok (.invokevirtual 184, 3) := by decide +kernel
theorem dX8_become_45 : decode cX8_become 45 = .ok (.iload 4, 2) := by decide +kernel
theorem dX8_become_47 : decode cX8_become 47 = .ok (.ireturn, 1) := by decide +kernel
theorem dX8_as_0 : decode cX8_as 0 = .ok (.aload_n 0, 1) := by decide +kernel
theorem dX8_as_1 : decode cX8_as 1 = .ok (.iload_n 1, 1) := by decide +kernel
theorem dX8_as_2 : decode cX8_as 2 = .ok (.invokevirtual 136, 3) := by decide +kernel
theorem dX8_as_5 : decode cX8_as 5 = .ok (.ifCond .eq 13, 3) := by decide +kernel
theorem dX8_as_8 : decode cX8_as 8 = .ok (.iload_n 2, 1) := by decide +kernel
theorem dX8_as_9 : decode cX8_as 9 = .ok (.iconst 0, 1) := by decide +kernel
theorem dX8_as_10 : decode cX8_as 10 = .ok (.bipush 6, 2) := by decide +kernel
theorem dX8_as_12 : decode cX8_as 12 = .ok (.invokestatic 65, 3) := by decide +kernel
theorem dX8_as_15 : decode cX8_as 15 = .ok (.ifCond .ne 9, 3) := by decide +kernel
theorem dX8_as_18 : decode cX8_as 18 = .ok (.aload_n 0, 1) := by decide +kernel
theorem dX8_as_19 : decode cX8_as 19 = .ok (.iconst 1, 1) := by decide +kernel
theorem dX8_as_20 : decode cX8_as 20 = .ok (.invokevirtual 69, 3) := by decide +kernel
theorem dX8_as_23 : decode cX8_as 23 = .ok (.ireturn, 1) := by decide +kernel
theorem dX8_as_24 : decode cX8_as 24 = .ok (.aload_n 0, 1) := by decide +kernel
theorem dX8_as_25 : decode cX8_as 25 = .ok (.getfield 10, 3) := by decide +kernel
theorem dX8_as_28 : decode cX8_as 28 = .ok (.getfield 73, 3) := by decide +kernel
theorem dX8_as_31 : decode cX8_as 31 = .ok (.getfield 139, 3) := by decide +kernel
theorem dX8_as_34 : decode cX8_as 34 = .ok (.iload_n 1, 1) := by decide +kernel
theorem dX8_as_35 : decode cX8_as 35 = .ok (.aaload, 1) := by decide +kernel
theorem dX8_as_36 : decode cX8_as 36 = .ok (.astore_n 3, 1) := by decide +kernel
theorem dX8_as_37 : decode cX8_as 37 = .ok (.aload_n 3, 1) := by decide +kernel
theorem dX8_as_38 : decode cX8_as 38 = .ok (.iload_n 2, 1) := by decide +kernel
theorem dX8_as_39 : decode cX8_as 39 = .ok (.invokevirtual 187, 3) := by decide +kernel
theorem dX8_as_42 : decode cX8_as 42 = .ok (.ifCond .eq 10, 3) := by decide +kernel
theorem dX8_as_45 : decode cX8_as 45 = .ok (.aload_n 3, 1) := by decide +kernel
theorem dX8_as_46 : decode cX8_as 46 = .ok (.getfield 148, 3) := by decide +kernel
theorem dX8_as_49 : decode cX8_as 49 = .ok (.goto 8, 3) := by decide +kernel
theorem dX8_as_52 : decode cX8_as 52 = .ok (.aload_n 0, 1) := by decide +kernel
theorem dX8_as_53 : decode cX8_as 53 = .ok (.iconst 5, 1) := by decide +kernel
theorem dX8_as_54 : decode cX8_as 54 = .ok (.invokevirtual 69, 3) := by decide +kernel
theorem dX8_as_57 : decode cX8_as 57 = .ok (.ireturn, 1) := by decide +kernel
theorem dX8_go_0 : decode cX8_go 0 = .ok (.iload_n 1, 1) := by decide +kernel
theorem dX8_go_1 : decode cX8_go 1 = .ok (.aload_n 0, 1) := by decide +kernel
theorem dX8_go_2 : decode cX8_go 2 = .ok (.getfield 10, 3) := by decide +kernel
theorem dX8_go_5 : decode cX8_go 5 = .ok (.getfield 73, 3) := by decide +kernel
theorem dX8_go_8 : decode cX8_go 8 = .ok (.getfield 76, 3) := by decide +kernel
theorem dX8_go_11 : decode cX8_go 11 = .ok (.invokestatic 87, 3) := by decide +kernel
theorem dX8_go_14 : decode cX8_go 14 = .ok (.ifCond .ne 9, 3) := by decide +kernel
theorem dX8_go_17 : decode cX8_go 17 = .ok (.aload_n 0, 1) := by decide +kernel
theorem dX8_go_18 : decode cX8_go 18 = .ok (.iconst 1, 1) := by decide +kernel
theorem dX8_go_19 : decode cX8_go 19 = .ok (.invokevirtual 69, 3) := by decide +kernel
theorem dX8_go_22 : decode cX8_go 22 = .ok (.ireturn, 1) := by decide +kernel
theorem dX8_go_23 : decode cX8_go 23 = .ok (.aload_n 0, 1) := by decide +kernel
theorem dX8_go_24 : decode cX8_go 24 = .ok (.getfield 10, 3) := by decide +kernel
theorem dX8_go_27 : decode cX8_go 27 = .ok (.getfield 73, 3) := by decide +kernel
theorem dX8_go_30 : decode cX8_go 30 = .ok (.getfield 190, 3) := by decide +kernel
theorem dX8_go_33 : decode cX8_go 33 = .ok (.istore_n 2, 1) := by decide +kernel
theorem dX8_go_34 : decode cX8_go 34 = .ok (.aload_n 0, 1) := by decide +kernel
theorem dX8_go_35 : decode cX8_go 35 = .ok (.getfield 10, 3) := by decide +kernel
theorem dX8_go_38 : decode cX8_go 38 = .ok (.getfield 73, 3) := by decide +kernel
theorem dX8_go_41 : decode cX8_go 41 = .ok (.iload_n 1, 1) := by decide +kernel
theorem dX8_go_42 : decode cX8_go 42 = .ok (.putfield 190, 3) := by decide +kernel
theorem dX8_go_45 : decode cX8_go 45 = .ok (.iload_n 2, 1) := by decide +kernel
theorem dX8_go_46 : decode cX8_go 46 = .ok (.ireturn, 1) := by decide +kernel
theorem dX8_splice_0 : decode cX8_splice 0 = .ok (.aload_n 0, 1) := by decide +kernel
theorem dX8_splice_1 : decode cX8_splice 1 = .ok (.iload_n 1, 1) := by decide +kernel
theorem dX8_splice_2 : decode cX8_splice 2 = .ok (.invokevirtual 129, 3) := by decide +kernel
theorem dX8_splice_5 : decode cX8_splice 5 = .ok (.ifCond .eq 14, 3) := by decide +kernel
theorem dX8_splice_8 : decode cX8_splice 8 = .ok (.iload_n 2, 1) := by decide +kernel
theorem dX8_splice_9 : decode cX8_splice 9 = .ok (.iconst 0, 1) := by decide +kernel
theorem dX8_splice_10 : decode cX8_splice 10 = .ok (.sipush 999, 3) := by decide +kernel
theorem dX8_splice_13 : decode cX8_splice 13 = .ok (.invokestatic 65, 3) := by decide +kernel
theorem dX8_splice_16 : decode cX8_splice 16 = .ok (.ifCond .ne 9, 3) := by decide +kernel
theorem dX8_splice_19 : decode cX8_splice 19 = .ok (.aload_n 0, 1) := by decide +kernel
theorem dX8_splice_20 : decode cX8_splice 20 = .ok (.iconst 1, 1) := by decide +kernel
theorem dX8_splice_21 : decode cX8_splice 21 = .ok (.invokevirtual 69, 3) := by decide +kernel
theorem dX8_splice_24 : decode cX8_splice 24 = .ok (.ireturn, 1) := by decide +kernel
theorem dX8_splice_25 : decode cX8_splice 25 = .ok (.aload_n 0, 1) := by decide +kernel
theorem dX8_splice_26 : decode cX8_splice 26 = .ok (.getfield 10, 3) := by decide +kernel
theorem dX8_splice_29 : decode cX8_splice 29 = .ok (.getfield 73, 3) := by decide +kernel
theorem dX8_splice_32 : decode cX8_splice 32 = .ok (.getfield 193, 3) := by decide +kernel
theorem dX8_splice_35 : decode cX8_splice 35 = .ok (.iload_n 1, 1) := by decide +kernel
theorem dX8_splice_36 : decode cX8_splice 36 = .ok (.iaload, 1) := by decide +kernel
theorem dX8_splice_37 : decode cX8_splice 37 = .ok (.istore_n 3, 1) := by decide +kernel
theorem dX8_splice_38 : decode cX8_splice 38 = .ok (.aload_n 0, 1) := by decide +kernel
theorem dX8_splice_39 : decode cX8_splice 39 = .ok (.getfield 10, 3) := by decide +kernel
theorem dX8_splice_42 : decode cX8_splice 42 = .ok (.getfield 73, 3) := by decide +kernel
theorem dX8_splice_45 : decode cX8_splice 45 = .ok (.getfield 193, 3) := by decide +kernel
theorem dX8_splice_48 : decode cX8_splice 48 = .ok (.iload_n 1, 1) := by decide +kernel
theorem dX8_splice_49 : decode cX8_splice 49 = .ok (.iload_n 2, 1) := by decide +kernel
theorem dX8_splice_50 : decode cX8_splice 50 = .ok (.iastore, 1) := by decide +kernel
theorem dX8_splice_51 : decode cX8_splice 51 = .ok (.iload_n 3, 1) := by decide +kernel
theorem dX8_splice_52 : decode cX8_splice 52 = .ok (.ireturn, 1) := by decide +kernel
theorem dX8_feed_0 : decode cX8_feed 0 = .ok (.iload_n 3, 1) := by decide +kernel
theorem dX8_feed_1 : decode cX8_feed 1 = .ok (.iconst 1, 1) := by decide +kernel
theorem dX8_feed_2 : decode cX8_feed 2 = .ok (.bipush 8, 2) := by decide +kernel
theorem dX8_feed_4 : decode cX8_feed 4 = .ok (.invokestatic 65, 3) := by decide +kernel
theorem dX8_feed_7 : decode cX8_feed 7 = .ok (.ifCond .ne 9, 3) := by decide +kernel
theorem dX8_feed_10 : decode cX8_feed 10 = .ok (.aload_n 0, 1) := by decide +kernel
theorem dX8_feed_11 : decode cX8_feed 11 = .ok (.iconst 1, 1) := by decide +kernel
theorem dX8_feed_12 : decode cX8_feed 12 = .ok (.invokevirtual 69, 3) := by decide +kernel
theorem dX8_feed_15 : decode cX8_feed 15 = .ok (.ireturn, 1) := by decide +kernel
theorem dX8_feed_16 : decode cX8_feed 16 = .ok (.aload_n 0, 1) := by decide +kernel
theorem dX8_feed_17 : decode cX8_feed 17 = .ok (.getfield 10, 3) := by decide +kernel
theorem dX8_feed_20 : decode cX8_feed 20 = .ok (.getfield 196, 3) := by decide +kernel
theorem dX8_feed_23 : decode cX8_feed 23 = .ok (.iload_n 3, 1) := by decide +kernel
theorem dX8_feed_24 : decode cX8_feed 24 = .ok (.iadd, 1) := by decide +kernel
theorem dX8_feed_25 : decode cX8_feed 25 = .ok (.bipush 50, 2) := by decide +kernel
theorem dX8_feed_27 : decode cX8_feed 27 = .ok (.if_icmp .le 9, 3) := by decide +kernel
theorem dX8_feed_30 : decode cX8_feed 30 = .ok (.aload_n 0, 1) := by decide +kernel
theorem dX8_feed_31 : decode cX8_feed 31 = .ok (.iconst 4, 1) := by decide +kernel
theorem dX8_feed_32 : decode cX8_feed 32 = .ok (.invokevirtual 69, 3) := by decide +kernel
theorem dX8_feed_35 : decode cX8_feed 35 = .ok (.ireturn, 1) := by decide +kernel
theorem dX8_feed_36 : decode cX8_feed 36 = .ok (.iconst 0, 1) := by decide +kernel
theorem dX8_feed_37 : decode cX8_feed 37 = .ok (.istore 4, 2) := by decide +kernel
theorem dX8_feed_39 : decode cX8_feed 39 = .ok (.iload 4, 2) := by decide +kernel
theorem dX8_feed_41 : decode cX8_feed 41 = .ok (.iload_n 3, 1) := by decide +kernel
theorem dX8_feed_42 : decode cX8_feed 42 = .ok (.if_icmp .ge 49, 3) := by decide +kernel
theorem dX8_feed_45 : decode cX8_feed 45 = .ok (.aload_n 0, 1) := by decide +kernel
theorem dX8_feed_46 : decode cX8_feed 46 = .ok (.getfield 10, 3) := by decide +kernel
theorem dX8_feed_49 : decode cX8_feed 49 = .ok (.getfield 37, 3) := by decide +kernel
theorem dX8_feed_52 : decode cX8_feed 52 = .ok (.aload_n 0, 1) := by decide +kernel
theorem dX8_feed_53 : decode cX8_feed 53 = .ok (.getfield 10, 3) := by decide +kernel
theorem dX8_feed_56 : decode cX8_feed 56 = .ok (.getfield 196, 3) := by decide +kernel
theorem dX8_feed_59 : decode cX8_feed 59 = .ok (.lload_n 1, 1) := by decide +kernel
theorem dX8_feed_60 : decode cX8_feed 60 = .ok (.bipush 8, 2) := by decide +kernel
theorem dX8_feed_62 : decode cX8_feed 62 = .ok (.iload 4, 2) := by decide +kernel
theorem dX8_feed_64 : decode cX8_feed 64 = .ok (.imul, 1) := by decide +kernel
theorem dX8_feed_65 : decode cX8_feed 65 = .ok (.lushr, 1) := by decide +kernel
theorem dX8_feed_66 : decode cX8_feed 66 = .ok (.l2i, 1) := by decide +kernel
theorem dX8_feed_67 : decode cX8_feed 67 = .ok (.sipush 255, 3) := by decide +kernel
theorem dX8_feed_70 : decode cX8_feed 70 = .ok (.iand, 1) := by decide +kernel
theorem dX8_feed_71 : decode cX8_feed 71 = .ok (.iastore, 1) := by decide +kernel
theorem dX8_feed_72 : decode cX8_feed 72 = .ok (.aload_n 0, 1) := by decide +kernel
theorem dX8_feed_73 : decode cX8_feed 73 = .ok (.getfield 10, 3) := by decide +kernel
theorem dX8_feed_76 : decode cX8_feed 76 = .ok (.dup, 1) := by decide +kernel
theorem dX8_feed_77 : decode cX8_feed 77 = .ok (.getfield 196, 3) := by decide +kernel
theorem dX8_feed_80 : decode cX8_feed 80 = .ok (.iconst 1, 1) := by decide +kernel
theorem dX8_feed_81 : decode cX8_feed 81 = .ok (.iadd, 1) := by decide +kernel
theorem dX8_feed_82 : decode cX8_feed 82 = .ok (.putfield 196, 3) := by decide +kernel
theorem dX8_feed_85 : decode cX8_feed 85 = .ok (.iinc 4 1, 3) := by decide +kernel
theorem dX8_feed_88 : decode cX8_feed 88 = .ok (.goto (-49), 3) := by decide +kernel
theorem dX8_feed_91 : decode cX8_feed 91 = .ok (.aload_n 0, 1) := by decide +kernel
theorem dX8_feed_92 : decode cX8_feed 92 = .ok (.getfield 10, 3) := by decide +kernel
theorem dX8_feed_95 : decode cX8_feed 95 = .ok (.getfield 196, 3) := by decide +kernel
theorem dX8_feed_98 : decode cX8_feed 98 = .ok (.ireturn, 1) := by decide +kernel
theorem dX8_text_0 : decode cX8_text 0 = .ok (.iload_n 1, 1) := by decide +kernel
theorem dX8_text_1 : decode cX8_text 1 = .ok (.invokestatic 199, 3) := by decide +kernel
theorem dX8_text_4 : decode cX8_text 4 = .ok (.ifCond .ne 9, 3) := by decide +kernel
theorem dX8_text_7 : decode cX8_text 7 = .ok (.aload_n 0, 1) := by decide +kernel
theorem dX8_text_8 : decode cX8_text 8 = .ok (.iconst 1, 1) := by decide +kernel
theorem dX8_text_9 : decode cX8_text 9 = .ok (.invokevirtual 69, 3) := by decide +kernel
theorem dX8_text_12 : decode cX8_text 12 = .ok (.ireturn, 1) := by decide +kernel
theorem dX8_text_13 : decode cX8_text 13 = .ok (.aload_n 0, 1) := by decide +kernel
theorem dX8_text_14 : decode cX8_text 14 = .ok (.getfield 44, 3) := by decide +kernel
theorem dX8_text_17 : decode cX8_text 17 = .ok (.aload_n 0, 1) := by decide +kernel
theorem dX8_text_18 : decode cX8_text 18 = .ok (.getfield 10, 3) := by decide +kernel
theorem dX8_text_21 : decode cX8_text 21 = .ok (.getfield 196, 3) := by decide +kernel
theorem dX8_text_24 : decode cX8_text 24 = .ok (.iload_n 1, 1) := by decide +kernel
theorem dX8_text_25 : decode cX8_text 25 = .ok (.invokevirtual 202, 3) := by decide +kernel
theorem dX8_text_28 : decode cX8_text 28 = .ok (.istore_n 2, 1) := by decide +kernel
theorem dX8_text_29 : decode cX8_text 29 = .ok (.aload_n 0, 1) := by decide +kernel
theorem dX8_text_30 : decode cX8_text 30 = .ok (.getfield 10, 3) := by decide +kernel
theorem dX8_text_33 : decode cX8_text 33 = .ok (.iconst 0, 1) := by decide +kernel
theorem dX8_text_34 : decode cX8_text 34 = .ok (.putfield 196, 3) := by decide +kernel
theorem dX8_text_37 : decode cX8_text 37 = .ok (.iload_n 2, 1) := by decide +kernel
theorem dX8_text_38 : decode cX8_text 38 = .ok (.ifCond .ne 14, 3) := by decide +kernel
theorem dX8_text_41 : decode cX8_text 41 = .ok (.bipush (-10), 2) := by decide +kernel
theorem dX8_text_43 : decode cX8_text 43 = .ok (.aload_n 0, 1) := by decide +kernel
theorem dX8_text_44 : decode cX8_text 44 = .ok (.getfield 44, 3) := by decide +kernel
theorem dX8_text_47 : decode cX8_text 47 = .ok (.getfield 205, 3) := by decide +kernel
theorem dX8_text_50 : decode cX8_text 50 = .ok (.isub, 1) := by decide +kernel
theorem dX8_text_51 : decode cX8_text 51 = .ok (.ireturn, 1) := by decide +kernel
theorem dX8_text_52 : decode cX8_text 52 = .ok (.aload_n 0, 1) := by decide +kernel
theorem dX8_text_53 : decode cX8_text 53 = .ok (.getfield 10, 3) := by decide +kernel
theorem dX8_text_56 : decode cX8_text 56 = .ok (.iload_n 1, 1) := by decide +kernel
theorem dX8_text_57 : decode cX8_text 57 = .ok (.invokevirtual 208, 3) := by decide +kernel
theorem dX8_text_60 : decode cX8_text 60 = .ok (.aload_n 0, 1) := by decide +kernel
theorem dX8_text_61 : decode cX8_text 61 = .ok (.getfield 44, 3) := by decide +kernel
theorem dX8_text_64 : decode cX8_text 64 = .ok (.getfield 212, 3) := by decide +kernel
theorem dX8_text_67 : decode cX8_text 67 = .ok (.aload_n 0, 1) := by decide +kernel
theorem dX8_text_68 : decode cX8_text 68 = .ok (.getfield 44, 3) := by decide +kernel
theorem dX8_text_71 : decode cX8_text 71 = .ok (.getfield 215, 3) := by decide +kernel
theorem dX8_text_74 : decode cX8_text 74 = .ok (.invokevirtual 218, 3) := by decide +kernel
theorem dX8_text_77 : decode cX8_text 77 = .ok (.iconst 1, 1) := by decide +kernel
theorem dX8_text_78 : decode cX8_text 78 = .ok (.ireturn, 1) := by decide +kernel
theorem dX8_law_0 : decode cX8_law 0 = .ok (.iload_n 1, 1) := by decide +kernel
theorem dX8_law_1 : decode cX8_law 1 = .ok (.invokestatic 199, 3) := by decide +kernel
theorem dX8_law_4 : decode cX8_law 4 = .ok (.ifCond .eq 21, 3) := by decide +kernel
theorem dX8_law_7 : decode cX8_law 7 = .ok (.aload_n 0, 1) := by decide +kernel
theorem dX8_law_8 : decode cX8_law 8 = .ok (.getfield 10, 3) := by decide +kernel
theorem dX8_law_11 : decode cX8_law 11 = .ok (.iload_n 1, 1) := by decide +kernel
theorem dX8_law_12 : decode cX8_law 12 = .ok (.invokevirtual 208, 3) := by decide +kernel
theorem dX8_law_15 : decode cX8_law 15 = .ok (.iload_n 2, 1) := by decide +kernel
theorem dX8_law_16 : decode cX8_law 16 = .ok (.iload_n 3, 1) := by decide +kernel
theorem dX8_law_17 : decode cX8_law 17 = .ok (.iload 4, 2) := by decide +kernel
theorem dX8_law_19 : decode cX8_law 19 = .ok (.invokevirtual 224, 3) := by decide +kernel
theorem dX8_law_22 : decode cX8_law 22 = .ok (.goto 8, 3) := by decide +kernel
theorem dX8_law_25 : decode cX8_law 25 = .ok (.aload_n 0, 1) := by decide +kernel
theorem dX8_law_26 : decode cX8_law 26 = .ok (.iconst 1, 1) := by decide +kernel
theorem dX8_law_27 : decode cX8_law 27 = .ok (.invokevirtual 69, 3) := by decide +kernel
theorem dX8_law_30 : decode cX8_law 30 = .ok (.ireturn, 1) := by decide +kernel
theorem dX8_beats_0 : decode cX8_beats 0 = .ok (.iload_n 1, 1) := by decide +kernel
theorem dX8_beats_1 : decode cX8_beats 1 = .ok (.iconst 1, 1) := by decide +kernel
theorem dX8_beats_2 : decode cX8_beats 2 = .ok (.sipush 200, 3) := by decide +kernel
theorem dX8_beats_5 : decode cX8_beats 5 = .ok (.invokestatic 65, 3) := by decide +kernel
theorem dX8_beats_8 : decode cX8_beats 8 = .ok (.ifCond .ne 9, 3) := by decide +kernel
theorem dX8_beats_11 : decode cX8_beats 11 = .ok (.aload_n 0, 1) := by decide +kernel
theorem dX8_beats_12 : decode cX8_beats 12 = .ok (.iconst 1, 1) := by decide +kernel
theorem dX8_beats_13 : decode cX8_beats 13 = .ok (.invokevirtual 69, 3) := by decide +kernel
theorem dX8_beats_16 : decode cX8_beats 16 = .ok (.ireturn, 1) := by decide +kernel
theorem dX8_beats_17 : decode cX8_beats 17 = .ok (.aload_n 0, 1) := by decide +kernel
theorem dX8_beats_18 : decode cX8_beats 18 = .ok (.getfield 10, 3) := by decide +kernel
theorem dX8_beats_21 : decode cX8_beats 21 = .ok (.getfield 73, 3) := by decide +kernel
theorem dX8_beats_24 : decode cX8_beats 24 = .ok (.getfield 227, 3) := by decide +kernel
theorem dX8_beats_27 : decode cX8_beats 27 = .ok (.iload_n 1, 1) := by decide +kernel
theorem dX8_beats_28 : decode cX8_beats 28 = .ok (.iadd, 1) := by decide +kernel
theorem dX8_beats_29 : decode cX8_beats 29 = .ok (.ldc 230, 2) := by decide +kernel
theorem dX8_beats_31 : decode cX8_beats 31 = .ok (.if_icmp .le 9, 3) := by decide +kernel
theorem dX8_beats_34 : decode cX8_beats 34 = .ok (.aload_n 0, 1) := by decide +kernel
theorem dX8_beats_35 : decode cX8_beats 35 = .ok (.iconst 3, 1) := by decide +kernel
theorem dX8_beats_36 : decode cX8_beats 36 = .ok (.invokevirtual 69, 3) := by decide +kernel
theorem dX8_beats_39 : decode cX8_beats 39 = .ok (.ireturn, 1) := by decide +kernel
theorem dX8_beats_40 : decode cX8_beats 40 = .ok (.aload_n 0, 1) := by decide +kernel
theorem dX8_beats_41 : decode cX8_beats 41 = .ok (.getfield 10, 3) := by decide +kernel
theorem dX8_beats_44 : decode cX8_beats 44 = .ok (.getfield 73, 3) := by decide +kernel
theorem dX8_beats_47 : decode cX8_beats 47 = .ok (.iload_n 1, 1) := by decide +kernel
theorem dX8_beats_48 : decode cX8_beats 48 = .ok (.invokevirtual 231, 3) := by decide +kernel
theorem dX8_beats_51 : decode cX8_beats 51 = .ok (.aload_n 0, 1) := by decide +kernel
theorem dX8_beats_52 : decode cX8_beats 52 = .ok (.getfield 10, 3) := by decide +kernel
theorem dX8_beats_55 : decode cX8_beats 55 = .ok (.getfield 73, 3) := by decide +kernel
theorem dX8_beats_58 : decode cX8_beats 58 = .ok (.iconst 2, 1) := by decide +kernel
theorem dX8_beats_59 : decode cX8_beats 59 = .ok (.invokevirtual 234, 3) := by decide +kernel
theorem dX8_beats_62 : decode cX8_beats 62 = .ok (.ireturn, 1) := by decide +kernel
theorem dX8_loose_0 : decode cX8_loose 0 = .ok (.iload_n 1, 1) := by decide +kernel
theorem dX8_loose_1 : decode cX8_loose 1 = .ok (.iconst 1, 1) := by decide +kernel
theorem dX8_loose_2 : decode cX8_loose 2 = .ok (.bipush 40, 2) := by decide +kernel
theorem dX8_loose_4 : decode cX8_loose 4 = .ok (.invokestatic 65, 3) := by decide +kernel
theorem dX8_loose_7 : decode cX8_loose 7 = .ok (.ifCond .ne 9, 3) := by decide +kernel
theorem dX8_loose_10 : decode cX8_loose 10 = .ok (.aload_n 0, 1) := by decide +kernel
theorem dX8_loose_11 : decode cX8_loose 11 = .ok (.iconst 1, 1) := by decide +kernel
theorem dX8_loose_12 : decode cX8_loose 12 = .ok (.invokevirtual 69, 3) := by decide +kernel
theorem dX8_loose_15 : decode cX8_loose 15 = .ok (.ireturn, 1) := by decide +kernel
theorem dX8_loose_16 : decode cX8_loose 16 = .ok (.aload_n 0, 1) := by decide +kernel
theorem dX8_loose_17 : decode cX8_loose 17 = .ok (.getfield 10, 3) := by decide +kernel
theorem dX8_loose_20 : decode cX8_loose 20 = .ok (.getfield 73, 3) := by decide +kernel
theorem dX8_loose_23 : decode cX8_loose 23 = .ok (.getfield 227, 3) := by decide +kernel
theorem dX8_loose_26 : decode cX8_loose 26 = .ok (.iload_n 1, 1) := by decide +kernel
theorem dX8_loose_27 : decode cX8_loose 27 = .ok (.iadd, 1) := by decide +kernel
theorem dX8_loose_28 : decode cX8_loose 28 = .ok (.ldc 230, 2) := by decide +kernel
theorem dX8_loose_30 : decode cX8_loose 30 = .ok (.if_icmp .le 9, 3) := by decide +kernel
theorem dX8_loose_33 : decode cX8_loose 33 = .ok (.aload_n 0, 1) := by decide +kernel
theorem dX8_loose_34 : decode cX8_loose 34 = .ok (.iconst 3, 1) := by decide +kernel
theorem dX8_loose_35 : decode cX8_loose 35 = .ok (.invokevirtual 69, 3) := by decide +kernel
theorem dX8_loose_38 : decode cX8_loose 38 = .ok (.ireturn, 1) := by decide +kernel
theorem dX8_loose_39 : decode cX8_loose 39 = .ok (.iconst 0, 1) := by decide +kernel
theorem dX8_loose_40 : decode cX8_loose 40 = .ok (.istore_n 2, 1) := by decide +kernel
theorem dX8_loose_41 : decode cX8_loose 41 = .ok (.iload_n 2, 1) := by decide +kernel
theorem dX8_loose_42 : decode cX8_loose 42 = .ok (.iload_n 1, 1) := by decide +kernel
theorem dX8_loose_43 : decode cX8_loose 43 = .ok (.if_icmp .ge 23, 3) := by decide +kernel
theorem dX8_loose_46 : decode cX8_loose 46 = .ok (.aload_n 0, 1) := by decide +kernel
theorem dX8_loose_47 : decode cX8_loose 47 = .ok (.invokevirtual 237, 3) := by decide +kernel
theorem dX8_loose_50 : decode cX8_loose 50 = .ok (.aload_n 0, 1) := by decide +kernel
theorem dX8_loose_51 : decode cX8_loose 51 = .ok (.getfield 10, 3) := by decide +kernel
theorem dX8_loose_54 : decode cX8_loose 54 = .ok (.getfield 73, 3) := by decide +kernel
theorem dX8_loose_57 : decode cX8_loose 57 = .ok (.invokevirtual 240, 3) := by decide +kernel
theorem dX8_loose_60 : decode cX8_loose 60 = .ok (.iinc 2 1, 3) := by decide +kernel
theorem dX8_loose_63 : decode cX8_loose 63 = .ok (.goto (-22), 3) := by decide +kernel
theorem dX8_loose_66 : decode cX8_loose 66 = .ok (.aload_n 0, 1) := by decide +kernel
theorem dX8_loose_67 : decode cX8_loose 67 = .ok (.getfield 10, 3) := by decide +kernel
theorem dX8_loose_70 : decode cX8_loose 70 = .ok (.getfield 73, 3) := by decide +kernel
theorem dX8_loose_73 : decode cX8_loose 73 = .ok (.iconst 2, 1) := by decide +kernel
theorem dX8_loose_74 : decode cX8_loose 74 = .ok (.invokevirtual 234, 3) := by decide +kernel
theorem dX8_loose_77 : decode cX8_loose 77 = .ok (.ireturn, 1) := by decide +kernel
theorem dX8_wear_0 : decode cX8_wear 0 = .ok (.aload_n 0, 1) := by decide +kernel
theorem dX8_wear_1 : decode cX8_wear 1 = .ok (.iload_n 1, 1) := by decide +kernel
theorem dX8_wear_2 : decode cX8_wear 2 = .ok (.invokevirtual 129, 3) := by decide +kernel
theorem dX8_wear_5 : decode cX8_wear 5 = .ok (.ifCond .eq 18, 3) := by decide +kernel
theorem dX8_wear_8 : decode cX8_wear 8 = .ok (.aload_n 0, 1) := by decide +kernel
theorem dX8_wear_9 : decode cX8_wear 9 = .ok (.getfield 10, 3) := by decide +kernel
theorem dX8_wear_12 : decode cX8_wear 12 = .ok (.getfield 73, 3) := by decide +kernel
theorem dX8_wear_15 : decode cX8_wear 15 = .ok (.getfield 193, 3) := by decide +kernel
theorem dX8_wear_18 : decode cX8_wear 18 = .ok (.iload_n 1, 1) := by decide +kernel
theorem dX8_wear_19 : decode cX8_wear 19 = .ok (.iaload, 1) := by decide +kernel
theorem dX8_wear_20 : decode cX8_wear 20 = .ok (.goto 8, 3) := by decide +kernel
theorem dX8_wear_23 : decode cX8_wear 23 = .ok (.aload_n 0, 1) := by decide +kernel
theorem dX8_wear_24 : decode cX8_wear 24 = .ok (.iconst 1, 1) := by decide +kernel
theorem dX8_wear_25 : decode cX8_wear 25 = .ok (.invokevirtual 69, 3) := by decide +kernel
theorem dX8_wear_28 : decode cX8_wear 28 = .ok (.ireturn, 1) := by decide +kernel
theorem dX8_then_0 : decode cX8_then 0 = .ok (.iload_n 1, 1) := by decide +kernel
theorem dX8_then_1 : decode cX8_then 1 = .ok (.iconst 0, 1) := by decide +kernel
theorem dX8_then_2 : decode cX8_then 2 = .ok (.sipush 200, 3) := by decide +kernel
theorem dX8_then_5 : decode cX8_then 5 = .ok (.invokestatic 65, 3) := by decide +kernel
theorem dX8_then_8 : decode cX8_then 8 = .ok (.ifCond .eq 20, 3) := by decide +kernel
theorem dX8_then_11 : decode cX8_then 11 = .ok (.aload_n 0, 1) := by decide +kernel
theorem dX8_then_12 : decode cX8_then 12 = .ok (.iload_n 2, 1) := by decide +kernel
theorem dX8_then_13 : decode cX8_then 13 = .ok (.invokevirtual 136, 3) := by decide +kernel
theorem dX8_then_16 : decode cX8_then 16 = .ok (.ifCond .eq 12, 3) := by decide +kernel
theorem dX8_then_19 : decode cX8_then 19 = .ok (.iload_n 3, 1) := by decide +kernel
theorem dX8_then_20 : decode cX8_then 20 = .ok (.iconst 0, 1) := by decide +kernel
theorem dX8_then_21 : decode cX8_then 21 = .ok (.iconst 1, 1) := by decide +kernel
theorem dX8_then_22 : decode cX8_then 22 = .ok (.invokestatic 65, 3) := by decide +kernel
theorem dX8_then_25 : decode cX8_then 25 = .ok (.ifCond .ne 9, 3) := by decide +kernel
theorem dX8_then_28 : decode cX8_then 28 = .ok (.aload_n 0, 1) := by decide +kernel
theorem dX8_then_29 : decode cX8_then 29 = .ok (.iconst 1, 1) := by decide +kernel
theorem dX8_then_30 : decode cX8_then 30 = .ok (.invokevirtual 69, 3) := by decide +kernel
theorem dX8_then_33 : decode cX8_then 33 = .ok (.ireturn, 1) := by decide +kernel
theorem dX8_then_34 : decode cX8_then 34 = .ok (.aload_n 0, 1) := by decide +kernel
theorem dX8_then_35 : decode cX8_then 35 = .ok (.invokevirtual 243, 3) := by decide +kernel
theorem dX8_then_38 : decode cX8_then 38 = .ok (.aload_n 0, 1) := by decide +kernel
theorem dX8_then_39 : decode cX8_then 39 = .ok (.getfield 31, 3) := by decide +kernel
theorem dX8_then_42 : decode cX8_then 42 = .ok (.iload_n 1, 1) := by decide +kernel
theorem dX8_then_43 : decode cX8_then 43 = .ok (.invokevirtual 246, 3) := by decide +kernel
theorem dX8_then_46 : decode cX8_then 46 = .ok (.aload_n 0, 1) := by decide +kernel
theorem dX8_then_47 : decode cX8_then 47 = .ok (.getfield 31, 3) := by decide +kernel
theorem dX8_then_50 : decode cX8_then 50 = .ok (.getfield 139, 3) := by decide +kernel
theorem dX8_then_53 : decode cX8_then 53 = .ok (.iload_n 2, 1) := by decide +kernel
theorem dX8_then_54 : decode cX8_then 54 = .ok (.aaload, 1) := by decide +kernel
theorem dX8_then_55 : decode cX8_then 55 = .ok (.astore 4, 2) := by decide +kernel
theorem dX8_then_57 : decode cX8_then 57 = .ok (.iload_n 3, 1) := by decide +kernel
theorem dX8_then_58 : decode cX8_then 58 = .ok (.ifCond .ne 11, 3) := by decide +kernel
theorem dX8_then_61 : decode cX8_then 61 = .ok (.aload 4, 2) := by decide +kernel
theorem dX8_then_63 : decode cX8_then 63 = .ok (.getfield 160, 3) := by decide +kernel
theorem dX8_then_66 : decode cX8_then 66 = .ok (.goto 8, 3) := by decide +kernel
theorem dX8_then_69 : decode cX8_then 69 = .ok (.aload 4, 2) := by decide +kernel
theorem dX8_then_71 : decode cX8_then 71 = .ok (.getfield 163, 3) := by decide +kernel
theorem dX8_then_74 : decode cX8_then 74 = .ok (.ireturn, 1) := by decide +kernel
theorem dX8_over_0 : decode cX8_over 0 = .ok (.aload_n 0, 1) := by decide +kernel
theorem dX8_over_1 : decode cX8_over 1 = .ok (.iload_n 1, 1) := by decide +kernel
theorem dX8_over_2 : decode cX8_over 2 = .ok (.invokevirtual 136, 3) := by decide +kernel
theorem dX8_over_5 : decode cX8_over 5 = .ok (.ifCond .ne 9, 3) := by decide +kernel
theorem dX8_over_8 : decode cX8_over 8 = .ok (.aload_n 0, 1) := by decide +kernel
theorem dX8_over_9 : decode cX8_over 9 = .ok (.iconst 1, 1) := by decide +kernel
theorem dX8_over_10 : decode cX8_over 10 = .ok (.invokevirtual 69, 3) := by decide +kernel
theorem dX8_over_13 : decode cX8_over 13 = .ok (.ireturn, 1) := by decide +kernel
theorem dX8_over_14 : decode cX8_over 14 = .ok (.aload_n 0, 1) := by decide +kernel
theorem dX8_over_15 : decode cX8_over 15 = .ok (.invokevirtual 243, 3) := by decide +kernel
theorem dX8_over_18 : decode cX8_over 18 = .ok (.aload_n 0, 1) := by decide +kernel
theorem dX8_over_19 : decode cX8_over 19 = .ok (.getfield 31, 3) := by decide +kernel
theorem dX8_over_22 : decode cX8_over 22 = .ok (.getfield 139, 3) := by decide +kernel
theorem dX8_over_25 : decode cX8_over 25 = .ok (.iload_n 1, 1) := by decide +kernel
theorem dX8_over_26 : decode cX8_over 26 = .ok (.aaload, 1) := by decide +kernel
theorem dX8_over_27 : decode cX8_over 27 = .ok (.astore_n 2, 1) := by decide +kernel
theorem dX8_over_28 : decode cX8_over 28 = .ok (.iconst 0, 1) := by decide +kernel
theorem dX8_over_29 : decode cX8_over 29 = .ok (.istore_n 3, 1) := by decide +kernel
theorem dX8_over_30 : decode cX8_over 30 = .ok (.iload_n 3, 1) := by decide +kernel
theorem dX8_over_31 : decode cX8_over 31 = .ok (.sipush 200, 3) := by decide +kernel
theorem dX8_over_34 : decode cX8_over 34 = .ok (.if_icmp .gt 26, 3) := by decide +kernel
theorem dX8_over_37 : decode cX8_over 37 = .ok (.aload_n 2, 1) := by decide +kernel
theorem dX8_over_38 : decode cX8_over 38 = .ok (.getfield 160, 3) := by decide +kernel
theorem dX8_over_41 : decode cX8_over 41 = .ok (.iconst 2, 1) := by decide +kernel
theorem dX8_over_42 : decode cX8_over 42 = .ok (.if_icmp .ne 5, 3) := by decide +kernel
theorem dX8_over_45 : decode cX8_over 45 = .ok (.iload_n 3, 1) := by decide +kernel
theorem dX8_over_46 : decode cX8_over 46 = .ok (.ireturn, 1) := by decide +kernel
theorem dX8_over_47 : decode cX8_over 47 = .ok (.aload_n 0, 1) := by decide +kernel
theorem dX8_over_48 : decode cX8_over 48 = .ok (.getfield 31, 3) := by decide +kernel
theorem dX8_over_51 : decode cX8_over 51 = .ok (.invokevirtual 240, 3) := by decide +kernel
theorem dX8_over_54 : decode cX8_over 54 = .ok (.iinc 3 1, 3) := by decide +kernel
theorem dX8_over_57 : decode cX8_over 57 = .ok (.goto (-27), 3) := by decide +kernel
theorem dX8_over_60 : decode cX8_over 60 = .ok (.aload_n 0, 1) := by decide +kernel
theorem dX8_over_61 : decode cX8_over 61 = .ok (.iconst 2, 1) := by decide +kernel
theorem dX8_over_62 : decode cX8_over 62 = .ok (.invokevirtual 69, 3) := by decide +kernel
theorem dX8_over_65 : decode cX8_over 65 = .ok (.ireturn, 1) := by decide +kernel
theorem dX8_begin_0 : decode cX8_begin 0 = .ok (.aload_n 0, 1) := by decide +kernel
theorem dX8_begin_1 : decode cX8_begin 1 = .ok (.iload_n 1, 1) := by decide +kernel
theorem dX8_begin_2 : decode cX8_begin 2 = .ok (.invokevirtual 136, 3) := by decide +kernel
theorem dX8_begin_5 : decode cX8_begin 5 = .ok (.ifCond .ne 9, 3) := by decide +kernel
theorem dX8_begin_8 : decode cX8_begin 8 = .ok (.aload_n 0, 1) := by decide +kernel
theorem dX8_begin_9 : decode cX8_begin 9 = .ok (.iconst 1, 1) := by decide +kernel
theorem dX8_begin_10 : decode cX8_begin 10 = .ok (.invokevirtual 69, 3) := by decide +kernel
theorem dX8_begin_13 : decode cX8_begin 13 = .ok (.ireturn, 1) := by decide +kernel
theorem dX8_begin_14 : decode cX8_begin 14 = .ok (.aload_n 0, 1) := by decide +kernel
theorem dX8_begin_15 : decode cX8_begin 15 = .ok (.getfield 10, 3) := by decide +kernel
theorem dX8_begin_18 : decode cX8_begin 18 = .ok (.getfield 73, 3) := by decide +kernel
theorem dX8_begin_21 : decode cX8_begin 21 = .ok (.getfield 139, 3) := by decide +kernel
theorem dX8_begin_24 : decode cX8_begin 24 = .ok (.iload_n 1, 1) := by decide +kernel
theorem dX8_begin_25 : decode cX8_begin 25 = .ok (.aaload, 1) := by decide +kernel
theorem dX8_begin_26 : decode cX8_begin 26 = .ok (.getfield 160, 3) := by decide +kernel
theorem dX8_begin_29 : decode cX8_begin 29 = .ok (.ifCond .eq 9, 3) := by decide +kernel
theorem dX8_begin_32 : decode cX8_begin 32 = .ok (.aload_n 0, 1) := by decide +kernel
theorem dX8_begin_33 : decode cX8_begin 33 = .ok (.iconst 3, 1) := by decide +kernel
theorem dX8_begin_34 : decode cX8_begin 34 = .ok (.invokevirtual 69, 3) := by decide +kernel
theorem dX8_begin_37 : decode cX8_begin 37 = .ok (.ireturn, 1) := by decide +kernel
theorem dX8_begin_38 : decode cX8_begin 38 = .ok (.iconst 0, 1) := by decide +kernel
theorem dX8_begin_39 : decode cX8_begin 39 = .ok (.istore_n 2, 1) := by decide +kernel
theorem dX8_begin_40 : decode cX8_begin 40 = .ok (.iload_n 2, 1) := by decide +kernel
theorem dX8_begin_41 : decode cX8_begin 41 = .ok (.aload_n 0, 1) := by decide +kernel
theorem dX8_begin_42 : decode cX8_begin 42 = .ok (.getfield 10, 3) := by decide +kernel
theorem dX8_begin_45 : decode cX8_begin 45 = .ok (.getfield 73, 3) := by decide +kernel
theorem dX8_begin_48 : decode cX8_begin 48 = .ok (.getfield 91, 3) := by decide +kernel
theorem dX8_begin_51 : decode cX8_begin 51 = .ok (.if_icmp .ge 20, 3) := by decide +kernel
theorem dX8_begin_54 : decode cX8_begin 54 = .ok (.aload_n 0, 1) := by decide +kernel
theorem dX8_begin_55 : decode cX8_begin 55 = .ok (.iload_n 1, 1) := by decide +kernel
theorem dX8_begin_56 : decode cX8_begin 56 = .ok (.iload_n 2, 1) := by decide +kernel
theorem dX8_begin_57 : decode cX8_begin 57 = .ok (.invokevirtual 249, 3) := by decide +kernel
theorem dX8_begin_60 : decode cX8_begin 60 = .ok (.ifCond .eq 5, 3) := by decide +kernel
theorem dX8_begin_63 : decode cX8_begin 63 = .ok (.iload_n 2, 1) := by decide +kernel
theorem dX8_begin_64 : decode cX8_begin 64 = .ok (.ireturn, 1) := by decide +kernel
theorem dX8_begin_65 : decode cX8_begin 65 = .ok (.iinc 2 1, 3) := by decide +kernel
theorem dX8_begin_68 : decode cX8_begin 68 = .ok (.goto (-28), 3) := by decide +kernel
theorem dX8_begin_71 : decode cX8_begin 71 = .ok (.aload_n 0, 1) := by decide +kernel
theorem dX8_begin_72 : decode cX8_begin 72 = .ok (.iconst 2, 1) := by decide +kernel
theorem dX8_begin_73 : decode cX8_begin 73 = .ok (.invokevirtual 69, 3) := by decide +kernel
theorem dX8_begin_76 : decode cX8_begin 76 = .ok (.ireturn, 1) := by decide +kernel
theorem dX8_rhymes_0 : decode cX8_rhymes 0 = .ok (.aload_n 0, 1) := by decide +kernel
theorem dX8_rhymes_1 : decode cX8_rhymes 1 = .ok (.getfield 10, 3) := by decide +kernel
theorem dX8_rhymes_4 : decode cX8_rhymes 4 = .ok (.getfield 73, 3) := by decide +kernel
theorem dX8_rhymes_7 : decode cX8_rhymes 7 = .ok (.getfield 76, 3) := by decide +kernel
theorem dX8_rhymes_10 : decode cX8_rhymes 10 = .ok (.istore 5, 2) := by decide +kernel
theorem dX8_rhymes_12 : decode cX8_rhymes 12 = .ok (.iload_n 1, 1) := by decide +kernel
theorem dX8_rhymes_13 : decode cX8_rhymes 13 = .ok (.iconst 0, 1) := by decide +kernel
theorem dX8_rhymes_14 : decode cX8_rhymes 14 = .ok (.bipush 60, 2) := by decide +kernel
theorem dX8_rhymes_16 : decode cX8_rhymes 16 = .ok (.invokestatic 65, 3) := by decide +kernel
theorem dX8_rhymes_19 : decode cX8_rhymes 19 = .ok (.ifCond .eq 37, 3) := by decide +kernel
theorem dX8_rhymes_22 : decode cX8_rhymes 22 = .ok (.iload_n 2, 1) := by decide +kernel
theorem dX8_rhymes_23 : decode cX8_rhymes 23 = .ok (.iload 5, 2) := by decide +kernel
theorem dX8_rhymes_25 : decode cX8_rhymes 25 = .ok (.invokestatic 87, 3) := by decide +kernel
theorem dX8_rhymes_28 : decode cX8_rhymes 28 = .ok (.ifCond .eq 28, 3) := by decide +kernel
theorem dX8_rhymes_31 : decode cX8_rhymes 31 = .ok (.iload_n 3, 1) := by decide +kernel
theorem dX8_rhymes_32 : decode cX8_rhymes 32 = .ok (.iload 5, 2) := by decide +kernel
theorem dX8_rhymes_34 : decode cX8_rhymes 34 = .ok (.invokestatic 87, 3) := by decide +kernel
theorem dX8_rhymes_37 : decode cX8_rhymes 37 = .ok (.ifCond .eq 19, 3) := by decide +kernel
theorem dX8_rhymes_40 : decode cX8_rhymes 40 = .ok (.iload_n 2, 1) := by decide +kernel
theorem dX8_rhymes_41 : decode cX8_rhymes 41 = .ok (.iload_n 3, 1) := by decide +kernel
theorem dX8_rhymes_42 : decode cX8_rhymes 42 = .ok (.iand, 1) := by decide +kernel
theorem dX8_rhymes_43 : decode cX8_rhymes 43 = .ok (.ifCond .ne 13, 3) := by decide +kernel
theorem dX8_rhymes_46 : decode cX8_rhymes 46 = .ok (.iload 4, 2) := by decide +kernel
theorem dX8_rhymes_48 : decode cX8_rhymes 48 = .ok (.iconst 0, 1) := by decide +kernel
theorem dX8_rhymes_49 : decode cX8_rhymes 49 = .ok (.iconst 1, 1) := by decide +kernel
theorem dX8_rhymes_50 : decode cX8_rhymes 50 = .ok (.invokestatic 65, 3) := by decide +kernel
theorem dX8_rhymes_53 : decode cX8_rhymes 53 = .ok (.ifCond .ne 9, 3) := by decide +kernel
theorem dX8_rhymes_56 : decode cX8_rhymes 56 = .ok (.aload_n 0, 1) := by decide +kernel
theorem dX8_rhymes_57 : decode cX8_rhymes 57 = .ok (.iconst 1, 1) := by decide +kernel
theorem dX8_rhymes_58 : decode cX8_rhymes 58 = .ok (.invokevirtual 69, 3) := by decide +kernel
theorem dX8_rhymes_61 : decode cX8_rhymes 61 = .ok (.ireturn, 1) := by decide +kernel
theorem dX8_rhymes_62 : decode cX8_rhymes 62 = .ok (.aload_n 0, 1) := by decide +kernel
theorem dX8_rhymes_63 : decode cX8_rhymes 63 = .ok (.getfield 10, 3) := by decide +kernel
theorem dX8_rhymes_66 : decode cX8_rhymes 66 = .ok (.getfield 73, 3) := by decide +kernel
theorem dX8_rhymes_69 : decode cX8_rhymes 69 = .ok (.getfield 91, 3) := by decide +kernel
theorem dX8_rhymes_72 : decode cX8_rhymes 72 = .ok (.bipush 8, 2) := by decide +kernel
theorem dX8_rhymes_74 : decode cX8_rhymes 74 = .ok (.if_icmp .le 9, 3) := by decide +kernel
theorem dX8_rhymes_77 : decode cX8_rhymes 77 = .ok (.aload_n 0, 1) := by decide +kernel
theorem dX8_rhymes_78 : decode cX8_rhymes 78 = .ok (.iconst 3, 1) := by decide +kernel
theorem dX8_rhymes_79 : decode cX8_rhymes 79 = .ok (.invokevirtual 69, 3) := by decide +kernel
theorem dX8_rhymes_82 : decode cX8_rhymes 82 = .ok (.ireturn, 1) := by decide +kernel
theorem dX8_rhymes_83 : decode cX8_rhymes 83 = .ok (.iconst 0, 1) := by decide +kernel
theorem dX8_rhymes_84 : decode cX8_rhymes 84 = .ok (.istore 6, 2) := by decide +kernel
theorem dX8_rhymes_86 : decode cX8_rhymes 86 = .ok (.iconst 0, 1) := by decide +kernel
theorem dX8_rhymes_87 : decode cX8_rhymes 87 = .ok (.istore 7, 2) := by decide +kernel
theorem dX8_rhymes_89 : decode cX8_rhymes 89 = .ok (.iload 7, 2) := by decide +kernel
theorem dX8_rhymes_91 : decode cX8_rhymes 91 = .ok (.iconst 1, 1) := by decide +kernel
theorem dX8_rhymes_92 : decode cX8_rhymes 92 = .ok (.aload_n 0, 1) := by decide +kernel
theorem dX8_rhymes_93 : decode cX8_rhymes 93 = .ok (.getfield 10, 3) := by decide +kernel
theorem dX8_rhymes_96 : decode cX8_rhymes 96 = .ok (.getfield 73, 3) := by decide +kernel
theorem dX8_rhymes_99 : decode cX8_rhymes 99 = .ok (.getfield 91, 3) := by decide +kernel
theorem dX8_rhymes_102 : decode cX8_rhymes 102 = .ok (.ishl, 1) := by decide +kernel
theorem dX8_rhymes_103 : decode cX8_rhymes 103 = .ok (.if_icmp .ge 33, 3) := by decide +kernel
theorem dX8_rhymes_106 : decode cX8_rhymes 106 = .ok (.aload_n 0, 1) := by decide +kernel
theorem dX8_rhymes_107 : decode cX8_rhymes 107 = .ok (.iload 7, 2) := by decide +kernel
theorem dX8_rhymes_109 : decode cX8_rhymes 109 = .ok (.iload_n 1, 1) := by decide +kernel
theorem dX8_rhymes_110 : decode cX8_rhymes 110 = .ok (.iload_n 2, 1) := by decide +kernel
theorem dX8_rhymes_111 : decode cX8_rhymes 111 = .ok (.iload_n 3, 1) := by decide +kernel
theorem dX8_rhymes_112 : decode cX8_rhymes 112 = .ok (.invokevirtual 252, 3) := by decide +kernel
theorem dX8_rhymes_115 : decode cX8_rhymes 115 = .ok (.ifCond .eq 15, 3) := by decide +kernel
theorem dX8_rhymes_118 : decode cX8_rhymes 118 = .ok (.iload 4, 2) := by decide +kernel
theorem dX8_rhymes_120 : decode cX8_rhymes 120 = .ok (.iconst 1, 1) := by decide +kernel
theorem dX8_rhymes_121 : decode cX8_rhymes 121 = .ok (.if_icmp .ne 6, 3) := by decide +kernel
theorem dX8_rhymes_124 : decode cX8_rhymes 124 = .ok (.iload 7, 2) := by decide +kernel
theorem dX8_rhymes_126 : decode cX8_rhymes 126 = .ok (.ireturn, 1) := by decide +kernel
theorem dX8_rhymes_127 : decode cX8_rhymes 127 = .ok (.iinc 6 1, 3) := by decide +kernel
theorem dX8_rhymes_130 : decode cX8_rhymes 130 = .ok (.iinc 7 1, 3) := by decide +kernel
theorem dX8_rhymes_133 : decode cX8_rhymes 133 = .ok (.goto (-44), 3) := by decide +kernel
theorem dX8_rhymes_136 : decode cX8_rhymes 136 = .ok (.iload 4, 2) := by decide +kernel
theorem dX8_rhymes_138 : decode cX8_rhymes 138 = .ok (.ifCond .ne 8, 3) := by decide +kernel
theorem dX8_rhymes_141 : decode cX8_rhymes 141 = .ok (.iload 6, 2) := by decide +kernel
theorem dX8_rhymes_143 : decode cX8_rhymes 143 = .ok (.goto 8, 3) := by decide +kernel
theorem dX8_rhymes_146 : decode cX8_rhymes 146 = .ok (.aload_n 0, 1) := by decide +kernel
theorem dX8_rhymes_147 : decode cX8_rhymes 147 = .ok (.iconst 2, 1) := by decide +kernel
theorem dX8_rhymes_148 : decode cX8_rhymes 148 = .ok (.invokevirtual 69, 3) := by decide +kernel
theorem dX8_rhymes_151 : decode cX8_rhymes 151 = .ok (.ireturn, 1) := by decide +kernel
theorem dX8_most_0 : decode cX8_most 0 = .ok (.iload_n 1, 1) := by decide +kernel
theorem dX8_most_1 : decode cX8_most 1 = .ok (.iconst 0, 1) := by decide +kernel
theorem dX8_most_2 : decode cX8_most 2 = .ok (.bipush 60, 2) := by decide +kernel
theorem dX8_most_4 : decode cX8_most 4 = .ok (.invokestatic 65, 3) := by decide +kernel
theorem dX8_most_7 : decode cX8_most 7 = .ok (.ifCond .ne 9, 3) := by decide +kernel
theorem dX8_most_10 : decode cX8_most 10 = .ok (.aload_n 0, 1) := by decide +kernel
theorem dX8_most_11 : decode cX8_most 11 = .ok (.iconst 1, 1) := by decide +kernel
theorem dX8_most_12 : decode cX8_most 12 = .ok (.invokevirtual 69, 3) := by decide +kernel
theorem dX8_most_15 : decode cX8_most 15 = .ok (.ireturn, 1) := by decide +kernel
theorem dX8_most_16 : decode cX8_most 16 = .ok (.aload_n 0, 1) := by decide +kernel
theorem dX8_most_17 : decode cX8_most 17 = .ok (.getfield 10, 3) := by decide +kernel
theorem dX8_most_20 : decode cX8_most 20 = .ok (.getfield 73, 3) := by decide +kernel
theorem dX8_most_23 : decode cX8_most 23 = .ok (.iconst 0, 1) := by decide +kernel
theorem dX8_most_24 : decode cX8_most 24 = .ok (.invokevirtual 256, 3) := by decide +kernel
theorem dX8_most_27 : decode cX8_most 27 = .ok (.istore_n 2, 1) := by decide +kernel
theorem dX8_most_28 : decode cX8_most 28 = .ok (.iconst 0, 1) := by decide +kernel
theorem dX8_most_29 : decode cX8_most 29 = .ok (.istore_n 3, 1) := by decide +kernel
theorem dX8_most_30 : decode cX8_most 30 = .ok (.iconst 1, 1) := by decide +kernel
theorem dX8_most_31 : decode cX8_most 31 = .ok (.istore 4, 2) := by decide +kernel
theorem dX8_most_33 : decode cX8_most 33 = .ok (.iload 4, 2) := by decide +kernel
theorem dX8_most_35 : decode cX8_most 35 = .ok (.iload_n 2, 1) := by decide +kernel
theorem dX8_most_36 : decode cX8_most 36 = .ok (.if_icmp .gt 43, 3) := by decide +kernel
theorem dX8_most_39 : decode cX8_most 39 = .ok (.iload 4, 2) := by decide +kernel
theorem dX8_most_41 : decode cX8_most 41 = .ok (.iload_n 2, 1) := by decide +kernel
theorem dX8_most_42 : decode cX8_most 42 = .ok (.iconst (-1), 1) := by decide +kernel
theorem dX8_most_43 : decode cX8_most 43 = .ok (.ixor, 1) := by decide +kernel
theorem dX8_most_44 : decode cX8_most 44 = .ok (.iand, 1) := by decide +kernel
theorem dX8_most_45 : decode cX8_most 45 = .ok (.ifCond .ne 28, 3) := by decide +kernel
theorem dX8_most_48 : decode cX8_most 48 = .ok (.iload 4, 2) := by decide +kernel
theorem dX8_most_50 : decode cX8_most 50 = .ok (.invokestatic 259, 3) := by decide +kernel
theorem dX8_most_53 : decode cX8_most 53 = .ok (.iload_n 3, 1) := by decide +kernel
theorem dX8_most_54 : decode cX8_most 54 = .ok (.invokestatic 259, 3) := by decide +kernel
theorem dX8_most_57 : decode cX8_most 57 = .ok (.if_icmp .le 16, 3) := by decide +kernel
theorem dX8_most_60 : decode cX8_most 60 = .ok (.aload_n 0, 1) := by decide +kernel
theorem dX8_most_61 : decode cX8_most 61 = .ok (.iload 4, 2) := by decide +kernel
theorem dX8_most_63 : decode cX8_most 63 = .ok (.iload_n 1, 1) := by decide +kernel
theorem dX8_most_64 : decode cX8_most 64 = .ok (.invokevirtual 264, 3) := by decide +kernel
theorem dX8_most_67 : decode cX8_most 67 = .ok (.ifCond .eq 6, 3) := by decide +kernel
theorem dX8_most_70 : decode cX8_most 70 = .ok (.iload 4, 2) := by decide +kernel
theorem dX8_most_72 : decode cX8_most 72 = .ok (.istore_n 3, 1) := by decide +kernel
theorem dX8_most_73 : decode cX8_most 73 = .ok (.iinc 4 1, 3) := by decide +kernel
theorem dX8_most_76 : decode cX8_most 76 = .ok (.goto (-43), 3) := by decide +kernel
theorem dX8_most_79 : decode cX8_most 79 = .ok (.iload_n 3, 1) := by decide +kernel
theorem dX8_most_80 : decode cX8_most 80 = .ok (.ireturn, 1) := by decide +kernel
theorem dX8_relief_0 : decode cX8_relief 0 = .ok (.aload_n 0, 1) := by decide +kernel
theorem dX8_relief_1 : decode cX8_relief 1 = .ok (.getfield 10, 3) := by decide +kernel
theorem dX8_relief_4 : decode cX8_relief 4 = .ok (.getfield 73, 3) := by decide +kernel
theorem dX8_relief_7 : decode cX8_relief 7 = .ok (.getfield 97, 3) := by decide +kernel
theorem dX8_relief_10 : decode cX8_relief 10 = .ok (.ifCond .ne 9, 3) := by decide +kernel
theorem dX8_relief_13 : decode cX8_relief 13 = .ok (.aload_n 0, 1) := by decide +kernel
theorem dX8_relief_14 : decode cX8_relief 14 = .ok (.iconst 2, 1) := by decide +kernel
theorem dX8_relief_15 : decode cX8_relief 15 = .ok (.invokevirtual 69, 3) := by decide +kernel
theorem dX8_relief_18 : decode cX8_relief 18 = .ok (.ireturn, 1) := by decide +kernel
theorem dX8_relief_19 : decode cX8_relief 19 = .ok (.iconst 0, 1) := by decide +kernel
theorem dX8_relief_20 : decode cX8_relief 20 = .ok (.istore_n 1, 1) := by decide +kernel
theorem dX8_relief_21 : decode cX8_relief 21 = .ok (.iconst 1, 1) := by decide +kernel
theorem dX8_relief_22 : decode cX8_relief 22 = .ok (.istore_n 2, 1) := by decide +kernel
theorem dX8_relief_23 : decode cX8_relief 23 = .ok (.iload_n 2, 1) := by decide +kernel
theorem dX8_relief_24 : decode cX8_relief 24 = .ok (.aload_n 0, 1) := by decide +kernel
theorem dX8_relief_25 : decode cX8_relief 25 = .ok (.getfield 10, 3) := by decide +kernel
theorem dX8_relief_28 : decode cX8_relief 28 = .ok (.getfield 73, 3) := by decide +kernel
theorem dX8_relief_31 : decode cX8_relief 31 = .ok (.getfield 97, 3) := by decide +kernel
theorem dX8_relief_34 : decode cX8_relief 34 = .ok (.if_icmp .ge 44, 3) := by decide +kernel
theorem dX8_relief_37 : decode cX8_relief 37 = .ok (.aload_n 0, 1) := by decide +kernel
theorem dX8_relief_38 : decode cX8_relief 38 = .ok (.getfield 10, 3) := by decide +kernel
theorem dX8_relief_41 : decode cX8_relief 41 = .ok (.getfield 73, 3) := by decide +kernel
theorem dX8_relief_44 : decode cX8_relief 44 = .ok (.getfield 107, 3) := by decide +kernel
theorem dX8_relief_47 : decode cX8_relief 47 = .ok (.iload_n 2, 1) := by decide +kernel
theorem dX8_relief_48 : decode cX8_relief 48 = .ok (.aaload, 1) := by decide +kernel
theorem dX8_relief_49 : decode cX8_relief 49 = .ok (.invokevirtual 267, 3) := by decide +kernel
theorem dX8_relief_52 : decode cX8_relief 52 = .ok (.aload_n 0, 1) := by decide +kernel
theorem dX8_relief_53 : decode cX8_relief 53 = .ok (.getfield 10, 3) := by decide +kernel
theorem dX8_relief_56 : decode cX8_relief 56 = .ok (.getfield 73, 3) := by decide +kernel
theorem dX8_relief_59 : decode cX8_relief 59 = .ok (.getfield 107, 3) := by decide +kernel
theorem dX8_relief_62 : decode cX8_relief 62 = .ok (.iload_n 1, 1) := by decide +kernel
theorem dX8_relief_63 : decode cX8_relief 63 = .ok (.aaload, 1) := by decide +kernel
theorem dX8_relief_64 : decode cX8_relief 64 = .ok (.invokevirtual 267, 3) := by decide +kernel
theorem dX8_relief_67 : decode cX8_relief 67 = .ok (.if_icmp .le 5, 3) := by decide +kernel
theorem dX8_relief_70 : decode cX8_relief 70 = .ok (.iload_n 2, 1) := by decide +kernel
theorem dX8_relief_71 : decode cX8_relief 71 = .ok (.istore_n 1, 1) := by decide +kernel
theorem dX8_relief_72 : decode cX8_relief 72 = .ok (.iinc 2 1, 3) := by decide +kernel
theorem dX8_relief_75 : decode cX8_relief 75 = .ok (.goto (-52), 3) := by decide +kernel
theorem dX8_relief_78 : decode cX8_relief 78 = .ok (.iload_n 1, 1) := by decide +kernel
theorem dX8_relief_79 : decode cX8_relief 79 = .ok (.ireturn, 1) := by decide +kernel
theorem dX8_stands_0 : decode cX8_stands 0 = .ok (.aload_n 0, 1) := by decide +kernel
theorem dX8_stands_1 : decode cX8_stands 1 = .ok (.invokevirtual 243, 3) := by decide +kernel
theorem dX8_stands_4 : decode cX8_stands 4 = .ok (.iconst 0, 1) := by decide +kernel
theorem dX8_stands_5 : decode cX8_stands 5 = .ok (.istore_n 1, 1) := by decide +kernel
theorem dX8_stands_6 : decode cX8_stands 6 = .ok (.iload_n 1, 1) := by decide +kernel
theorem dX8_stands_7 : decode cX8_stands 7 = .ok (.sipush 200, 3) := by decide +kernel
theorem dX8_stands_10 : decode cX8_stands 10 = .ok (.if_icmp .gt 28, 3) := by decide +kernel
theorem dX8_stands_13 : decode cX8_stands 13 = .ok (.aload_n 0, 1) := by decide +kernel
theorem dX8_stands_14 : decode cX8_stands 14 = .ok (.getfield 31, 3) := by decide +kernel
theorem dX8_stands_17 : decode cX8_stands 17 = .ok (.invokevirtual 270, 3) := by decide +kernel
theorem dX8_stands_20 : decode cX8_stands 20 = .ok (.ifCond .eq 5, 3) := by decide +kernel
theorem dX8_stands_23 : decode cX8_stands 23 = .ok (.iload_n 1, 1) := by decide +kernel
theorem dX8_stands_24 : decode cX8_stands 24 = .ok (.ireturn, 1) := by decide +kernel
theorem dX8_stands_25 : decode cX8_stands 25 = .ok (.aload_n 0, 1) := by decide +kernel
theorem dX8_stands_26 : decode cX8_stands 26 = .ok (.getfield 31, 3) := by decide +kernel
theorem dX8_stands_29 : decode cX8_stands 29 = .ok (.invokevirtual 240, 3) := by decide +kernel
theorem dX8_stands_32 : decode cX8_stands 32 = .ok (.iinc 1 1, 3) := by decide +kernel
theorem dX8_stands_35 : decode cX8_stands 35 = .ok (.goto (-29), 3) := by decide +kernel
theorem dX8_stands_38 : decode cX8_stands 38 = .ok (.aload_n 0, 1) := by decide +kernel
theorem dX8_stands_39 : decode cX8_stands 39 = .ok (.iconst 2, 1) := by decide +kernel
theorem dX8_stands_40 : decode cX8_stands 40 = .ok (.invokevirtual 69, 3) := by decide +kernel
theorem dX8_stands_43 : decode cX8_stands 43 = .ok (.ireturn, 1) := by decide +kernel
theorem dX8_parts_0 : decode cX8_parts 0 = .ok (.iload_n 1, 1) := by decide +kernel
theorem dX8_parts_1 : decode cX8_parts 1 = .ok (.iconst 0, 1) := by decide +kernel
theorem dX8_parts_2 : decode cX8_parts 2 = .ok (.sipush 999, 3) := by decide +kernel
theorem dX8_parts_5 : decode cX8_parts 5 = .ok (.invokestatic 65, 3) := by decide +kernel
theorem dX8_parts_8 : decode cX8_parts 8 = .ok (.ifCond .ne 9, 3) := by decide +kernel
theorem dX8_parts_11 : decode cX8_parts 11 = .ok (.aload_n 0, 1) := by decide +kernel
theorem dX8_parts_12 : decode cX8_parts 12 = .ok (.iconst 1, 1) := by decide +kernel
theorem dX8_parts_13 : decode cX8_parts 13 = .ok (.invokevirtual 69, 3) := by decide +kernel
theorem dX8_parts_16 : decode cX8_parts 16 = .ok (.ireturn, 1) := by decide +kernel
theorem dX8_parts_17 : decode cX8_parts 17 = .ok (.aload_n 0, 1) := by decide +kernel
theorem dX8_parts_18 : decode cX8_parts 18 = .ok (.invokevirtual 243, 3) := by decide +kernel
theorem dX8_parts_21 : decode cX8_parts 21 = .ok (.iconst 0, 1) := by decide +kernel
theorem dX8_parts_22 : decode cX8_parts 22 = .ok (.istore_n 2, 1) := by decide +kernel
theorem dX8_parts_23 : decode cX8_parts 23 = .ok (.iload_n 2, 1) := by decide +kernel
theorem dX8_parts_24 : decode cX8_parts 24 = .ok (.sipush 200, 3) := by decide +kernel
theorem dX8_parts_27 : decode cX8_parts 27 = .ok (.if_icmp .gt 29, 3) := by decide +kernel
theorem dX8_parts_30 : decode cX8_parts 30 = .ok (.aload_n 0, 1) := by decide +kernel
theorem dX8_parts_31 : decode cX8_parts 31 = .ok (.getfield 31, 3) := by decide +kernel
theorem dX8_parts_34 : decode cX8_parts 34 = .ok (.invokevirtual 274, 3) := by decide +kernel
theorem dX8_parts_37 : decode cX8_parts 37 = .ok (.iload_n 1, 1) := by decide +kernel
theorem dX8_parts_38 : decode cX8_parts 38 = .ok (.if_icmp .lt 5, 3) := by decide +kernel
theorem dX8_parts_41 : decode cX8_parts 41 = .ok (.iload_n 2, 1) := by decide +kernel
theorem dX8_parts_42 : decode cX8_parts 42 = .ok (.ireturn, 1) := by decide +kernel
theorem dX8_parts_43 : decode cX8_parts 43 = .ok (.aload_n 0, 1) := by decide +kernel
theorem dX8_parts_44 : decode cX8_parts 44 = .ok (.getfield 31, 3) := by decide +kernel
theorem dX8_parts_47 : decode cX8_parts 47 = .ok (.invokevirtual 240, 3) := by decide +kernel
theorem dX8_parts_50 : decode cX8_parts 50 = .ok (.iinc 2 1, 3) := by decide +kernel
theorem dX8_parts_53 : decode cX8_parts 53 = .ok (.goto (-30), 3) := by decide +kernel
theorem dX8_parts_56 : decode cX8_parts 56 = .ok (.aload_n 0, 1) := by decide +kernel
theorem dX8_parts_57 : decode cX8_parts 57 = .ok (.iconst 2, 1) := by decide +kernel
theorem dX8_parts_58 : decode cX8_parts 58 = .ok (.invokevirtual 69, 3) := by decide +kernel
theorem dX8_parts_61 : decode cX8_parts 61 = .ok (.ireturn, 1) := by decide +kernel
theorem dX8_who_0 : decode cX8_who 0 = .ok (.iload_n 1, 1) := by decide +kernel
theorem dX8_who_1 : decode cX8_who 1 = .ok (.invokestatic 277, 3) := by decide +kernel
theorem dX8_who_4 : decode cX8_who 4 = .ok (.ifCond .eq 14, 3) := by decide +kernel
theorem dX8_who_7 : decode cX8_who 7 = .ok (.iload_n 2, 1) := by decide +kernel
theorem dX8_who_8 : decode cX8_who 8 = .ok (.iconst 0, 1) := by decide +kernel
theorem dX8_who_9 : decode cX8_who 9 = .ok (.sipush 200, 3) := by decide +kernel
theorem dX8_who_12 : decode cX8_who 12 = .ok (.invokestatic 65, 3) := by decide +kernel
theorem dX8_who_15 : decode cX8_who 15 = .ok (.ifCond .ne 9, 3) := by decide +kernel
theorem dX8_who_18 : decode cX8_who 18 = .ok (.aload_n 0, 1) := by decide +kernel
theorem dX8_who_19 : decode cX8_who 19 = .ok (.iconst 1, 1) := by decide +kernel
theorem dX8_who_20 : decode cX8_who 20 = .ok (.invokevirtual 69, 3) := by decide +kernel
theorem dX8_who_23 : decode cX8_who 23 = .ok (.ireturn, 1) := by decide +kernel
theorem dX8_who_24 : decode cX8_who 24 = .ok (.aload_n 0, 1) := by decide +kernel
theorem dX8_who_25 : decode cX8_who 25 = .ok (.getfield 57, 3) := by decide +kernel
theorem dX8_who_28 : decode cX8_who 28 = .ok (.iload_n 1, 1) := by decide +kernel
theorem dX8_who_29 : decode cX8_who 29 = .ok (.aaload, 1) := by decide +kernel
theorem dX8_who_30 : decode cX8_who 30 = .ok (.astore_n 3, 1) := by decide +kernel
theorem dX8_who_31 : decode cX8_who 31 = .ok (.aload_n 3, 1) := by decide +kernel
theorem dX8_who_32 : decode cX8_who 32 = .ok (.invokevirtual 280, 3) := by decide +kernel
theorem dX8_who_35 : decode cX8_who 35 = .ok (.ifCond .ne 20, 3) := by decide +kernel
theorem dX8_who_38 : decode cX8_who 38 = .ok (.aload_n 3, 1) := by decide +kernel
theorem dX8_who_39 : decode cX8_who 39 = .ok (.getfield 283, 3) := by decide +kernel
theorem dX8_who_42 : decode cX8_who 42 = .ok (.aload_n 0, 1) := by decide +kernel
theorem dX8_who_43 : decode cX8_who 43 = .ok (.getfield 10, 3) := by decide +kernel
theorem dX8_who_46 : decode cX8_who 46 = .ok (.getfield 73, 3) := by decide +kernel
theorem dX8_who_49 : decode cX8_who 49 = .ok (.getfield 80, 3) := by decide +kernel
theorem dX8_who_52 : decode cX8_who 52 = .ok (.if_icmp .eq 9, 3) := by decide +kernel
theorem dX8_who_55 : decode cX8_who 55 = .ok (.aload_n 0, 1) := by decide +kernel
theorem dX8_who_56 : decode cX8_who 56 = .ok (.iconst 2, 1) := by decide +kernel
theorem dX8_who_57 : decode cX8_who 57 = .ok (.invokevirtual 69, 3) := by decide +kernel
theorem dX8_who_60 : decode cX8_who 60 = .ok (.ireturn, 1) := by decide +kernel
theorem dX8_who_61 : decode cX8_who 61 = .ok (.iconst 0, 1) := by decide +kernel
theorem dX8_who_62 : decode cX8_who 62 = .ok (.istore 4, 2) := by decide +kernel
theorem dX8_who_64 : decode cX8_who 64 = .ok (.iconst 0, 1) := by decide +kernel
theorem dX8_who_65 : decode cX8_who 65 = .ok (.istore 5, 2) := by decide +kernel
theorem dX8_who_67 : decode cX8_who 67 = .ok (.iload 5, 2) := by decide +kernel
theorem dX8_who_69 : decode cX8_who 69 = .ok (.aload_n 0, 1) := by decide +kernel
theorem dX8_who_70 : decode cX8_who 70 = .ok (.getfield 10, 3) := by decide +kernel
theorem dX8_who_73 : decode cX8_who 73 = .ok (.getfield 73, 3) := by decide +kernel
theorem dX8_who_76 : decode cX8_who 76 = .ok (.getfield 76, 3) := by decide +kernel
theorem dX8_who_79 : decode cX8_who 79 = .ok (.if_icmp .ge 48, 3) := by decide +kernel
theorem dX8_who_82 : decode cX8_who 82 = .ok (.aload_n 0, 1) := by decide +kernel
theorem dX8_who_83 : decode cX8_who 83 = .ok (.getfield 10, 3) := by decide +kernel
theorem dX8_who_86 : decode cX8_who 86 = .ok (.getfield 73, 3) := by decide +kernel
theorem dX8_who_89 : decode cX8_who 89 = .ok (.getfield 139, 3) := by decide +kernel
theorem dX8_who_92 : decode cX8_who 92 = .ok (.iload 5, 2) := by decide +kernel
theorem dX8_who_94 : decode cX8_who 94 = .ok (.aaload, 1) := by decide +kernel
theorem dX8_who_95 : decode cX8_who 95 = .ok (.getfield 160, 3) := by decide +kernel
theorem dX8_who_98 : decode cX8_who 98 = .ok (.ifCond .ne 23, 3) := by decide +kernel
theorem dX8_who_101 : decode cX8_who 101 = .ok (.aload_n 0, 1) := by decide +kernel
theorem dX8_who_102 : decode cX8_who 102 = .ok (.iload 5, 2) := by decide +kernel
theorem dX8_who_104 : decode cX8_who 104 = .ok (.iload_n 2, 1) := by decide +kernel
theorem dX8_who_105 : decode cX8_who 105 = .ok (.aload_n 3, 1) := by decide +kernel
theorem dX8_who_106 : decode cX8_who 106 = .ok (.invokevirtual 284, 3) := by decide +kernel
theorem dX8_who_109 : decode cX8_who 109 = .ok (.ifCond .eq 12, 3) := by decide +kernel
theorem dX8_who_112 : decode cX8_who 112 = .ok (.iload 4, 2) := by decide +kernel
theorem dX8_who_114 : decode cX8_who 114 = .ok (.iconst 1, 1) := by decide +kernel
theorem dX8_who_115 : decode cX8_who 115 = .ok (.iload 5, 2) := by decide +kernel
theorem dX8_who_117 : decode cX8_who 117 = .ok (.ishl, 1) := by decide +kernel
theorem dX8_who_118 : decode cX8_who 118 = .ok (.ior, 1) := by decide +kernel
theorem dX8_who_119 : decode cX8_who 119 = .ok (.istore 4, 2) := by decide +kernel
theorem dX8_who_121 : decode cX8_who 121 = .ok (.iinc 5 1, 3) := by decide +kernel
theorem dX8_who_124 : decode cX8_who 124 = .ok (.goto (-57), 3) := by decide +kernel
theorem dX8_who_127 : decode cX8_who 127 = .ok (.iload 4, 2) := by decide +kernel
theorem dX8_who_129 : decode cX8_who 129 = .ok (.ireturn, 1) := by decide +kernel
theorem dX8_odds_0 : decode cX8_odds 0 = .ok (.aload_n 0, 1) := by decide +kernel
theorem dX8_odds_1 : decode cX8_odds 1 = .ok (.iload_n 1, 1) := by decide +kernel
theorem dX8_odds_2 : decode cX8_odds 2 = .ok (.invokevirtual 136, 3) := by decide +kernel
theorem dX8_odds_5 : decode cX8_odds 5 = .ok (.ifCond .eq 23, 3) := by decide +kernel
theorem dX8_odds_8 : decode cX8_odds 8 = .ok (.iload_n 2, 1) := by decide +kernel
theorem dX8_odds_9 : decode cX8_odds 9 = .ok (.iconst 0, 1) := by decide +kernel
theorem dX8_odds_10 : decode cX8_odds 10 = .ok (.sipush 200, 3) := by decide +kernel
theorem dX8_odds_13 : decode cX8_odds 13 = .ok (.invokestatic 65, 3) := by decide +kernel
theorem dX8_odds_16 : decode cX8_odds 16 = .ok (.ifCond .eq 12, 3) := by decide +kernel
theorem dX8_odds_19 : decode cX8_odds 19 = .ok (.iload_n 3, 1) := by decide +kernel
theorem dX8_odds_20 : decode cX8_odds 20 = .ok (.iconst 0, 1) := by decide +kernel
theorem dX8_odds_21 : decode cX8_odds 21 = .ok (.iconst 1, 1) := by decide +kernel
theorem dX8_odds_22 : decode cX8_odds 22 = .ok (.invokestatic 65, 3) := by decide +kernel
theorem dX8_odds_25 : decode cX8_odds 25 = .ok (.ifCond .ne 9, 3) := by decide +kernel
theorem dX8_odds_28 : decode cX8_odds 28 = .ok (.aload_n 0, 1) := by decide +kernel
theorem dX8_odds_29 : decode cX8_odds 29 = .ok (.iconst 1, 1) := by decide +kernel
theorem dX8_odds_30 : decode cX8_odds 30 = .ok (.invokevirtual 69, 3) := by decide +kernel
theorem dX8_odds_33 : decode cX8_odds 33 = .ok (.ireturn, 1) := by decide +kernel
theorem dX8_odds_34 : decode cX8_odds 34 = .ok (.aload_n 0, 1) := by decide +kernel
theorem dX8_odds_35 : decode cX8_odds 35 = .ok (.getfield 10, 3) := by decide +kernel
theorem dX8_odds_38 : decode cX8_odds 38 = .ok (.getfield 73, 3) := by decide +kernel
theorem dX8_odds_41 : decode cX8_odds 41 = .ok (.getfield 139, 3) := by decide +kernel
theorem dX8_odds_44 : decode cX8_odds 44 = .ok (.iload_n 1, 1) := by decide +kernel
theorem dX8_odds_45 : decode cX8_odds 45 = .ok (.aaload, 1) := by decide +kernel
theorem dX8_odds_46 : decode cX8_odds 46 = .ok (.getfield 160, 3) := by decide +kernel
theorem dX8_odds_49 : decode cX8_odds 49 = .ok (.ifCond .eq 9, 3) := by decide +kernel
theorem dX8_odds_52 : decode cX8_odds 52 = .ok (.aload_n 0, 1) := by decide +kernel
theorem dX8_odds_53 : decode cX8_odds 53 = .ok (.iconst 3, 1) := by decide +kernel
theorem dX8_odds_54 : decode cX8_odds 54 = .ok (.invokevirtual 69, 3) := by decide +kernel
theorem dX8_odds_57 : decode cX8_odds 57 = .ok (.ireturn, 1) := by decide +kernel
theorem dX8_odds_58 : decode cX8_odds 58 = .ok (.aload_n 0, 1) := by decide +kernel
theorem dX8_odds_59 : decode cX8_odds 59 = .ok (.getfield 10, 3) := by decide +kernel
theorem dX8_odds_62 : decode cX8_odds 62 = .ok (.getfield 73, 3) := by decide +kernel
theorem dX8_odds_65 : decode cX8_odds 65 = .ok (.getfield 91, 3) := by decide +kernel
theorem dX8_odds_68 : decode cX8_odds 68 = .ok (.istore 4, 2) := by decide +kernel
theorem dX8_odds_70 : decode cX8_odds 70 = .ok (.iconst 0, 1) := by decide +kernel
theorem dX8_odds_71 : decode cX8_odds 71 = .ok (.istore 5, 2) := by decide +kernel
theorem dX8_odds_73 : decode cX8_odds 73 = .ok (.iconst 0, 1) := by decide +kernel
theorem dX8_odds_74 : decode cX8_odds 74 = .ok (.istore 6, 2) := by decide +kernel
theorem dX8_odds_76 : decode cX8_odds 76 = .ok (.iload 6, 2) := by decide +kernel
theorem dX8_odds_78 : decode cX8_odds 78 = .ok (.iload 4, 2) := by decide +kernel
theorem dX8_odds_80 : decode cX8_odds 80 = .ok (.if_icmp .ge 25, 3) := by decide +kernel
theorem dX8_odds_83 : decode cX8_odds 83 = .ok (.iload 5, 2) := by decide +kernel
theorem dX8_odds_85 : decode cX8_odds 85 = .ok (.aload_n 0, 1) := by decide +kernel
theorem dX8_odds_86 : decode cX8_odds 86 = .ok (.iload_n 1, 1) := by decide +kernel
theorem dX8_odds_87 : decode cX8_odds 87 = .ok (.iload_n 2, 1) := by decide +kernel
theorem dX8_odds_88 : decode cX8_odds 88 = .ok (.iload 6, 2) := by decide +kernel
theorem dX8_odds_90 : decode cX8_odds 90 = .ok (.invokevirtual 288, 3) := by decide +kernel
theorem dX8_odds_93 : decode cX8_odds 93 = .ok (.invokestatic 122, 3) := by decide +kernel
theorem dX8_odds_96 : decode cX8_odds 96 = .ok (.iadd, 1) := by decide +kernel
theorem dX8_odds_97 : decode cX8_odds 97 = .ok (.istore 5, 2) := by decide +kernel
theorem dX8_odds_99 : decode cX8_odds 99 = .ok (.iinc 6 1, 3) := by decide +kernel
theorem dX8_odds_102 : decode cX8_odds 102 = .ok (.goto (-26), 3) := by decide +kernel
theorem dX8_odds_105 : decode cX8_odds 105 = .ok (.iload 5, 2) := by decide +kernel
theorem dX8_odds_107 : decode cX8_odds 107 = .ok (.iload 4, 2) := by decide +kernel
theorem dX8_odds_109 : decode cX8_odds 109 = .ok (.invokestatic 291, 3) := by decide +kernel
theorem dX8_odds_112 : decode cX8_odds 112 = .ok (.istore 6, 2) := by decide +kernel
theorem dX8_odds_114 : decode cX8_odds 114 = .ok (.iload_n 3, 1) := by decide +kernel
theorem dX8_odds_115 : decode cX8_odds 115 = .ok (.ifCond .ne 11, 3) := by decide +kernel
theorem dX8_odds_118 : decode cX8_odds 118 = .ok (.iload 5, 2) := by decide +kernel
theorem dX8_odds_120 : decode cX8_odds 120 = .ok (.iload 6, 2) := by decide +kernel
theorem dX8_odds_122 : decode cX8_odds 122 = .ok (.idiv, 1) := by decide +kernel
theorem dX8_odds_123 : decode cX8_odds 123 = .ok (.goto 8, 3) := by decide +kernel
theorem dX8_odds_126 : decode cX8_odds 126 = .ok (.iload 4, 2) := by decide +kernel
theorem dX8_odds_128 : decode cX8_odds 128 = .ok (.iload 6, 2) := by decide +kernel
theorem dX8_odds_130 : decode cX8_odds 130 = .ok (.idiv, 1) := by decide +kernel
theorem dX8_odds_131 : decode cX8_odds 131 = .ok (.ireturn, 1) := by decide +kernel
theorem dX8_seed_0 : decode cX8_seed 0 = .ok (.aload_n 0, 1) := by decide +kernel
theorem dX8_seed_1 : decode cX8_seed 1 = .ok (.getfield 10, 3) := by decide +kernel
theorem dX8_seed_4 : decode cX8_seed 4 = .ok (.getfield 294, 3) := by decide +kernel
theorem dX8_seed_7 : decode cX8_seed 7 = .ok (.istore_n 2, 1) := by decide +kernel
theorem dX8_seed_8 : decode cX8_seed 8 = .ok (.aload_n 0, 1) := by decide +kernel
theorem dX8_seed_9 : decode cX8_seed 9 = .ok (.getfield 10, 3) := by decide +kernel
theorem dX8_seed_12 : decode cX8_seed 12 = .ok (.iload_n 1, 1) := by decide +kernel
theorem dX8_seed_13 : decode cX8_seed 13 = .ok (.putfield 294, 3) := by decide +kernel
theorem dX8_seed_16 : decode cX8_seed 16 = .ok (.iload_n 2, 1) := by decide +kernel
theorem dX8_seed_17 : decode cX8_seed 17 = .ok (.ireturn, 1) := by decide +kernel
theorem dX8_voice_0 : decode cX8_voice 0 = .ok (.aload_n 0, 1) := by decide +kernel
theorem dX8_voice_1 : decode cX8_voice 1 = .ok (.iload_n 1, 1) := by decide +kernel
theorem dX8_voice_2 : decode cX8_voice 2 = .ok (.invokevirtual 136, 3) := by decide +kernel
theorem dX8_voice_5 : decode cX8_voice 5 = .ok (.ifCond .eq 12, 3) := by decide +kernel
theorem dX8_voice_8 : decode cX8_voice 8 = .ok (.iload_n 2, 1) := by decide +kernel
theorem dX8_voice_9 : decode cX8_voice 9 = .ok (.iconst 0, 1) := by decide +kernel
theorem dX8_voice_10 : decode cX8_voice 10 = .ok (.iconst 3, 1) := by decide +kernel
theorem dX8_voice_11 : decode cX8_voice 11 = .ok (.invokestatic 65, 3) := by decide +kernel
theorem dX8_voice_14 : decode cX8_voice 14 = .ok (.ifCond .ne 9, 3) := by decide +kernel
theorem dX8_voice_17 : decode cX8_voice 17 = .ok (.aload_n 0, 1) := by decide +kernel
theorem dX8_voice_18 : decode cX8_voice 18 = .ok (.iconst 1, 1) := by decide +kernel
theorem dX8_voice_19 : decode cX8_voice 19 = .ok (.invokevirtual 69, 3) := by decide +kernel
theorem dX8_voice_22 : decode cX8_voice 22 = .ok (.ireturn, 1) := by decide +kernel
theorem dX8_voice_23 : decode cX8_voice 23 = .ok (.aload_n 0, 1) := by decide +kernel
theorem dX8_voice_24 : decode cX8_voice 24 = .ok (.getfield 10, 3) := by decide +kernel
theorem dX8_voice_27 : decode cX8_voice 27 = .ok (.getfield 73, 3) := by decide +kernel
theorem dX8_voice_30 : decode cX8_voice 30 = .ok (.getfield 139, 3) := by decide +kernel
theorem dX8_voice_33 : decode cX8_voice 33 = .ok (.iload_n 1, 1) := by decide +kernel
theorem dX8_voice_34 : decode cX8_voice 34 = .ok (.aaload, 1) := by decide +kernel
theorem dX8_voice_35 : decode cX8_voice 35 = .ok (.astore 4, 2) := by decide +kernel
theorem dX8_voice_37 : decode cX8_voice 37 = .ok (.aload_n 0, 1) := by decide +kernel
theorem dX8_voice_38 : decode cX8_voice 38 = .ok (.getfield 51, 3) := by decide +kernel
theorem dX8_voice_41 : decode cX8_voice 41 = .ok (.aload 4, 2) := by decide +kernel
theorem dX8_voice_43 : decode cX8_voice 43 = .ok (.getfield 143, 3) := by decide +kernel
theorem dX8_voice_46 : decode cX8_voice 46 = .ok (.iload_n 1, 1) := by decide +kernel
theorem dX8_voice_47 : decode cX8_voice 47 = .ok (.aload 4, 2) := by decide +kernel
theorem dX8_voice_49 : decode cX8_voice 49 = .ok (.getfield 148, 3) := by decide +kernel
theorem dX8_voice_52 : decode cX8_voice 52 = .ok (.iload_n 2, 1) := by decide +kernel
theorem dX8_voice_53 : decode cX8_voice 53 = .ok (.iload_n 3, 1) := by decide +kernel
theorem dX8_voice_54 : decode cX8_voice 54 = .ok (.invokevirtual 297, 3) := by decide +kernel
theorem dX8_voice_57 : decode cX8_voice 57 = .ok (.ireturn, 1) := by decide +kernel
theorem dX8_trace_0 : decode cX8_trace 0 = .ok (.iload_n 1, 1) := by decide +kernel
theorem dX8_trace_1 : decode cX8_trace 1 = .ok (.iconst 0, 1) := by decide +kernel
theorem dX8_trace_2 : decode cX8_trace 2 = .ok (.aload_n 0, 1) := by decide +kernel
theorem dX8_trace_3 : decode cX8_trace 3 = .ok (.getfield 51, 3) := by decide +kernel
theorem dX8_trace_6 : decode cX8_trace 6 = .ok (.getfield 301, 3) := by decide +kernel
theorem dX8_trace_9 : decode cX8_trace 9 = .ok (.iconst 1, 1) := by decide +kernel
theorem dX8_trace_10 : decode cX8_trace 10 = .ok (.isub, 1) := by decide +kernel
theorem dX8_trace_11 : decode cX8_trace 11 = .ok (.invokestatic 65, 3) := by decide +kernel
theorem dX8_trace_14 : decode cX8_trace 14 = .ok (.ifCond .eq 15, 3) := by decide +kernel
theorem dX8_trace_17 : decode cX8_trace 17 = .ok (.aload_n 0, 1) := by decide +kernel
theorem dX8_trace_18 : decode cX8_trace 18 = .ok (.getfield 51, 3) := by decide +kernel
theorem dX8_trace_21 : decode cX8_trace 21 = .ok (.getfield 304, 3) := by decide +kernel
theorem dX8_trace_24 : decode cX8_trace 24 = .ok (.iload_n 1, 1) := by decide +kernel
theorem dX8_trace_25 : decode cX8_trace 25 = .ok (.iaload, 1) := by decide +kernel
theorem dX8_trace_26 : decode cX8_trace 26 = .ok (.goto 8, 3) := by decide +kernel
theorem dX8_trace_29 : decode cX8_trace 29 = .ok (.aload_n 0, 1) := by decide +kernel
theorem dX8_trace_30 : decode cX8_trace 30 = .ok (.iconst 2, 1) := by decide +kernel
theorem dX8_trace_31 : decode cX8_trace 31 = .ok (.invokevirtual 69, 3) := by decide +kernel
theorem dX8_trace_34 : decode cX8_trace 34 = .ok (.ireturn, 1) := by decide +kernel
theorem dX8_sheet_0 : decode cX8_sheet 0 = .ok (.iload_n 2, 1) := by decide +kernel
theorem dX8_sheet_1 : decode cX8_sheet 1 = .ok (.ifCond .eq 21, 3) := by decide +kernel
theorem dX8_sheet_4 : decode cX8_sheet 4 = .ok (.iload_n 2, 1) := by decide +kernel
theorem dX8_sheet_5 : decode cX8_sheet 5 = .ok (.bipush 8, 2) := by decide +kernel
theorem dX8_sheet_7 : decode cX8_sheet 7 = .ok (.if_icmp .eq 15, 3) := by decide +kernel
theorem dX8_sheet_10 : decode cX8_sheet 10 = .ok (.iload_n 2, 1) := by decide +kernel
theorem dX8_sheet_11 : decode cX8_sheet 11 = .ok (.bipush 16, 2) := by decide +kernel
theorem dX8_sheet_13 : decode cX8_sheet 13 = .ok (.if_icmp .eq 9, 3) := by decide +kernel
theorem dX8_sheet_16 : decode cX8_sheet 16 = .ok (.iload_n 2, 1) := by decide +kernel
theorem dX8_sheet_17 : decode cX8_sheet 17 = .ok (.bipush 32, 2) := by decide +kernel
theorem dX8_sheet_19 : decode cX8_sheet 19 = .ok (.if_icmp .ne 7, 3) := by decide +kernel
theorem dX8_sheet_22 : decode cX8_sheet 22 = .ok (.iconst 1, 1) := by decide +kernel
theorem dX8_sheet_23 : decode cX8_sheet 23 = .ok (.goto 4, 3) := by decide +kernel
theorem dX8_sheet_26 : decode cX8_sheet 26 = .ok (.iconst 0, 1) := by decide +kernel
theorem dX8_sheet_27 : decode cX8_sheet 27 = .ok (.istore 4, 2) := by decide +kernel
theorem dX8_sheet_29 : decode cX8_sheet 29 = .ok (.iload_n 1, 1) := by decide +kernel
theorem dX8_sheet_30 : decode cX8_sheet 30 = .ok (.invokestatic 277, 3) := by decide +kernel
theorem dX8_sheet_33 : decode cX8_sheet 33 = .ok (.ifCond .eq 8, 3) := by decide +kernel
theorem dX8_sheet_36 : decode cX8_sheet 36 = .ok (.iload 4, 2) := by decide +kernel
theorem dX8_sheet_38 : decode cX8_sheet 38 = .ok (.ifCond .ne 9, 3) := by decide +kernel
theorem dX8_sheet_41 : decode cX8_sheet 41 = .ok (.aload_n 0, 1) := by decide +kernel
theorem dX8_sheet_42 : decode cX8_sheet 42 = .ok (.iconst 1, 1) := by decide +kernel
theorem dX8_sheet_43 : decode cX8_sheet 43 = .ok (.invokevirtual 69, 3) := by decide +kernel
theorem dX8_sheet_46 : decode cX8_sheet 46 = .ok (.ireturn, 1) := by decide +kernel
theorem dX8_sheet_47 : decode cX8_sheet 47 = .ok (.iload_n 2, 1) := by decide +kernel
theorem dX8_sheet_48 : decode cX8_sheet 48 = .ok (.ifCond .eq 13, 3) := by decide +kernel
theorem dX8_sheet_51 : decode cX8_sheet 51 = .ok (.iload_n 3, 1) := by decide +kernel
theorem dX8_sheet_52 : decode cX8_sheet 52 = .ok (.ifCond .ge 9, 3) := by decide +kernel
theorem dX8_sheet_55 : decode cX8_sheet 55 = .ok (.aload_n 0, 1) := by decide +kernel
theorem dX8_sheet_56 : decode cX8_sheet 56 = .ok (.iconst 3, 1) := by decide +kernel
theorem dX8_sheet_57 : decode cX8_sheet 57 = .ok (.invokevirtual 69, 3) := by decide +kernel
theorem dX8_sheet_60 : decode cX8_sheet 60 = .ok (.ireturn, 1) := by decide +kernel
theorem dX8_sheet_61 : decode cX8_sheet 61 = .ok (.iload_n 2, 1) := by decide +kernel
theorem dX8_sheet_62 : decode cX8_sheet 62 = .ok (.ifCond .eq 15, 3) := by decide +kernel
theorem dX8_sheet_65 : decode cX8_sheet 65 = .ok (.iload_n 3, 1) := by decide +kernel
theorem dX8_sheet_66 : decode cX8_sheet 66 = .ok (.bipush 40, 2) := by decide +kernel
theorem dX8_sheet_68 : decode cX8_sheet 68 = .ok (.if_icmp .le 9, 3) := by decide +kernel
theorem dX8_sheet_71 : decode cX8_sheet 71 = .ok (.aload_n 0, 1) := by decide +kernel
theorem dX8_sheet_72 : decode cX8_sheet 72 = .ok (.iconst 1, 1) := by decide +kernel
theorem dX8_sheet_73 : decode cX8_sheet 73 = .ok (.invokevirtual 69, 3) := by decide +kernel
theorem dX8_sheet_76 : decode cX8_sheet 76 = .ok (.ireturn, 1) := by decide +kernel
theorem dX8_sheet_77 : decode cX8_sheet 77 = .ok (.aload_n 0, 1) := by decide +kernel
theorem dX8_sheet_78 : decode cX8_sheet 78 = .ok (.getfield 57, 3) := by decide +kernel
theorem dX8_sheet_81 : decode cX8_sheet 81 = .ok (.iload_n 1, 1) := by decide +kernel
theorem dX8_sheet_82 : decode cX8_sheet 82 = .ok (.aaload, 1) := by decide +kernel
theorem dX8_sheet_83 : decode cX8_sheet 83 = .ok (.iload_n 2, 1) := by decide +kernel
theorem dX8_sheet_84 : decode cX8_sheet 84 = .ok (.iload_n 2, 1) := by decide +kernel
theorem dX8_sheet_85 : decode cX8_sheet 85 = .ok (.ifCond .ne 7, 3) := by decide +kernel
theorem dX8_sheet_88 : decode cX8_sheet 88 = .ok (.iconst 0, 1) := by decide +kernel
theorem dX8_sheet_89 : decode cX8_sheet 89 = .ok (.goto 4, 3) := by decide +kernel
theorem dX8_sheet_92 : decode cX8_sheet 92 = .ok (.iload_n 3, 1) := by decide +kernel
theorem dX8_sheet_93 : decode cX8_sheet 93 = .ok (.invokevirtual 307, 3) := by decide +kernel
theorem dX8_sheet_96 : decode cX8_sheet 96 = .ok (.iconst 1, 1) := by decide +kernel
theorem dX8_sheet_97 : decode cX8_sheet 97 = .ok (.ireturn, 1) := by decide +kernel
theorem dX8_put_0 : decode cX8_put 0 = .ok (.iload_n 1, 1) := by decide +kernel
theorem dX8_put_1 : decode cX8_put 1 = .ok (.invokestatic 277, 3) := by decide +kernel
theorem dX8_put_4 : decode cX8_put 4 = .ok (.ifCond .ne 9, 3) := by decide +kernel
theorem dX8_put_7 : decode cX8_put 7 = .ok (.aload_n 0, 1) := by decide +kernel
theorem dX8_put_8 : decode cX8_put 8 = .ok (.iconst 1, 1) := by decide +kernel
theorem dX8_put_9 : decode cX8_put 9 = .ok (.invokevirtual 69, 3) := by decide +kernel
theorem dX8_put_12 : decode cX8_put 12 = .ok (.ireturn, 1) := by decide +kernel
theorem dX8_put_13 : decode cX8_put 13 = .ok (.aload_n 0, 1) := by decide +kernel
theorem dX8_put_14 : decode cX8_put 14 = .ok (.getfield 57, 3) := by decide +kernel
theorem dX8_put_17 : decode cX8_put 17 = .ok (.iload_n 1, 1) := by decide +kernel
theorem dX8_put_18 : decode cX8_put 18 = .ok (.aaload, 1) := by decide +kernel
theorem dX8_put_19 : decode cX8_put 19 = .ok (.astore 4, 2) := by decide +kernel
theorem dX8_put_21 : decode cX8_put 21 = .ok (.aload 4, 2) := by decide +kernel
theorem dX8_put_23 : decode cX8_put 23 = .ok (.invokevirtual 280, 3) := by decide +kernel
theorem dX8_put_26 : decode cX8_put 26 = .ok (.ifCond .eq 9, 3) := by decide +kernel
theorem dX8_put_29 : decode cX8_put 29 = .ok (.aload_n 0, 1) := by decide +kernel
theorem dX8_put_30 : decode cX8_put 30 = .ok (.iconst 2, 1) := by decide +kernel
theorem dX8_put_31 : decode cX8_put 31 = .ok (.invokevirtual 69, 3) := by decide +kernel
theorem dX8_put_34 : decode cX8_put 34 = .ok (.ireturn, 1) := by decide +kernel
theorem dX8_put_35 : decode cX8_put 35 = .ok (.iload_n 2, 1) := by decide +kernel
theorem dX8_put_36 : decode cX8_put 36 = .ok (.iconst 0, 1) := by decide +kernel
theorem dX8_put_37 : decode cX8_put 37 = .ok (.aload 4, 2) := by decide +kernel
theorem dX8_put_39 : decode cX8_put 39 = .ok (.getfield 283, 3) := by decide +kernel
theorem dX8_put_42 : decode cX8_put 42 = .ok (.iconst 1, 1) := by decide +kernel
theorem dX8_put_43 : decode cX8_put 43 = .ok (.isub, 1) := by decide +kernel
theorem dX8_put_44 : decode cX8_put 44 = .ok (.invokestatic 65, 3) := by decide +kernel
theorem dX8_put_47 : decode cX8_put 47 = .ok (.ifCond .ne 9, 3) := by decide +kernel
theorem dX8_put_50 : decode cX8_put 50 = .ok (.aload_n 0, 1) := by decide +kernel
theorem dX8_put_51 : decode cX8_put 51 = .ok (.iconst 1, 1) := by decide +kernel
theorem dX8_put_52 : decode cX8_put 52 = .ok (.invokevirtual 69, 3) := by decide +kernel
theorem dX8_put_55 : decode cX8_put 55 = .ok (.ireturn, 1) := by decide +kernel
theorem dX8_put_56 : decode cX8_put 56 = .ok (.aload 4, 2) := by decide +kernel
theorem dX8_put_58 : decode cX8_put 58 = .ok (.iload_n 2, 1) := by decide +kernel
theorem dX8_put_59 : decode cX8_put 59 = .ok (.iload_n 3, 1) := by decide +kernel
theorem dX8_put_60 : decode cX8_put 60 = .ok (.invokevirtual 311, 3) := by decide +kernel
theorem dX8_put_63 : decode cX8_put 63 = .ok (.iconst 1, 1) := by decide +kernel
theorem dX8_put_64 : decode cX8_put 64 = .ok (.ireturn, 1) := by decide +kernel
theorem dX8_move_0 : decode cX8_move 0 = .ok (.iload_n 1, 1) := by decide +kernel
theorem dX8_move_1 : decode cX8_move 1 = .ok (.invokestatic 277, 3) := by decide +kernel
theorem dX8_move_4 : decode cX8_move 4 = .ok (.ifCond .eq 10, 3) := by decide +kernel
theorem dX8_move_7 : decode cX8_move 7 = .ok (.iload_n 3, 1) := by decide +kernel
theorem dX8_move_8 : decode cX8_move 8 = .ok (.invokestatic 277, 3) := by decide +kernel
theorem dX8_move_11 : decode cX8_move 11 = .ok (.ifCond .ne 9, 3) := by decide +kernel
theorem dX8_move_14 : decode cX8_move 14 = .ok (.aload_n 0, 1) := by decide +kernel
theorem dX8_move_15 : decode cX8_move 15 = .ok (.iconst 1, 1) := by decide +kernel
theorem dX8_move_16 : decode cX8_move 16 = .ok (.invokevirtual 69, 3) := by decide +kernel
theorem dX8_move_19 : decode cX8_move 19 = .ok (.ireturn, 1) := by decide +kernel
theorem dX8_move_20 : decode cX8_move 20 = .ok (.aload_n 0, 1) := by decide +kernel
theorem dX8_move_21 : decode cX8_move 21 = .ok (.getfield 57, 3) := by decide +kernel
theorem dX8_move_24 : decode cX8_move 24 = .ok (.iload_n 1, 1) := by decide +kernel
theorem dX8_move_25 : decode cX8_move 25 = .ok (.aaload, 1) := by decide +kernel
theorem dX8_move_26 : decode cX8_move 26 = .ok (.astore 6, 2) := by decide +kernel
theorem dX8_move_28 : decode cX8_move 28 = .ok (.aload_n 0, 1) := by decide +kernel
theorem dX8_move_29 : decode cX8_move 29 = .ok (.getfield 57, 3) := by decide +kernel
theorem dX8_move_32 : decode cX8_move 32 = .ok (.iload_n 3, 1) := by decide +kernel
theorem dX8_move_33 : decode cX8_move 33 = .ok (.aaload, 1) := by decide +kernel
theorem dX8_move_34 : decode cX8_move 34 = .ok (.astore 7, 2) := by decide +kernel
theorem dX8_move_36 : decode cX8_move 36 = .ok (.aload 6, 2) := by decide +kernel
theorem dX8_move_38 : decode cX8_move 38 = .ok (.invokevirtual 280, 3) := by decide +kernel
theorem dX8_move_41 : decode cX8_move 41 = .ok (.ifCond .ne 11, 3) := by decide +kernel
theorem dX8_move_44 : decode cX8_move 44 = .ok (.aload 7, 2) := by decide +kernel
theorem dX8_move_46 : decode cX8_move 46 = .ok (.invokevirtual 280, 3) := by decide +kernel
theorem dX8_move_49 : decode cX8_move 49 = .ok (.ifCond .eq 9, 3) := by decide +kernel
theorem dX8_move_52 : decode cX8_move 52 = .ok (.aload_n 0, 1) := by decide +kernel
theorem dX8_move_53 : decode cX8_move 53 = .ok (.iconst 2, 1) := by decide +kernel
theorem dX8_move_54 : decode cX8_move 54 = .ok (.invokevirtual 69, 3) := by decide +kernel
theorem dX8_move_57 : decode cX8_move 57 = .ok (.ireturn, 1) := by decide +kernel
theorem dX8_move_58 : decode cX8_move 58 = .ok (.aload 6, 2) := by decide +kernel
theorem dX8_move_60 : decode cX8_move 60 = .ok (.getfield 314, 3) := by decide +kernel
theorem dX8_move_63 : decode cX8_move 63 = .ok (.aload 7, 2) := by decide +kernel
theorem dX8_move_65 : decode cX8_move 65 = .ok (.getfield 314, 3) := by decide +kernel
theorem dX8_move_68 : decode cX8_move 68 = .ok (.if_icmp .eq 9, 3) := by decide +kernel
theorem dX8_move_71 : decode cX8_move 71 = .ok (.aload_n 0, 1) := by decide +kernel
theorem dX8_move_72 : decode cX8_move 72 = .ok (.iconst 5, 1) := by decide +kernel
theorem dX8_move_73 : decode cX8_move 73 = .ok (.invokevirtual 69, 3) := by decide +kernel
theorem dX8_move_76 : decode cX8_move 76 = .ok (.ireturn, 1) := by decide +kernel
theorem dX8_move_77 : decode cX8_move 77 = .ok (.aload 6, 2) := by decide +kernel
theorem dX8_move_79 : decode cX8_move 79 = .ok (.iload_n 2, 1) := by decide +kernel
theorem dX8_move_80 : decode cX8_move 80 = .ok (.iload 5, 2) := by decide +kernel
theorem dX8_move_82 : decode cX8_move 82 = .ok (.invokevirtual 317, 3) := by decide +kernel
theorem dX8_move_85 : decode cX8_move 85 = .ok (.ifCond .eq 15, 3) := by decide +kernel
theorem dX8_move_88 : decode cX8_move 88 = .ok (.aload 7, 2) := by decide +kernel
theorem dX8_move_90 : decode cX8_move 90 = .ok (.iload 4, 2) := by decide +kernel
theorem dX8_move_92 : decode cX8_move 92 = .ok (.iload 5, 2) := by decide +kernel
theorem dX8_move_94 : decode cX8_move 94 = .ok (.invokevirtual 317, 3) := by decide +kernel
theorem dX8_move_97 : decode cX8_move 97 = .ok (.ifCond .ne 9, 3) := by decide +kernel
theorem dX8_move_100 : decode cX8_move 100 = .ok (.aload_n 0, 1) := by decide +kernel
theorem dX8_move_101 : decode cX8_move 101 = .ok (.iconst 1, 1) := by decide +kernel
theorem dX8_move_102 : decode cX8_move 102 = .ok (.invokevirtual 69, 3) := by decide +kernel
theorem dX8_move_105 : decode cX8_move 105 = .ok (.ireturn, 1) := by decide +kernel
theorem dX8_move_106 : decode cX8_move 106 = .ok (.aload 6, 2) := by decide +kernel
theorem dX8_move_108 : decode cX8_move 108 = .ok (.getfield 320, 3) := by decide +kernel
theorem dX8_move_111 : decode cX8_move 111 = .ok (.iload_n 2, 1) := by decide +kernel
theorem dX8_move_112 : decode cX8_move 112 = .ok (.aload 7, 2) := by decide +kernel
theorem dX8_move_114 : decode cX8_move 114 = .ok (.getfield 320, 3) := by decide +kernel
theorem dX8_move_117 : decode cX8_move 117 = .ok (.iload 4, 2) := by decide +kernel
theorem dX8_move_119 : decode cX8_move 119 = .ok (.iload 5, 2) := by decide +kernel
theorem dX8_move_121 : decode cX8_move 121 = .ok (.invokestatic 323, 3) := by decide +kernel
theorem dX8_move_124 : decode cX8_move 124 = .ok (.iload 5, 2) := by decide +kernel
theorem dX8_move_126 : decode cX8_move 126 = .ok (.ireturn, 1) := by decide +kernel
theorem dX8_loads_0 : decode cX8_loads 0 = .ok (.iload_n 1, 1) := by decide +kernel
theorem dX8_loads_1 : decode cX8_loads 1 = .ok (.invokestatic 277, 3) := by decide +kernel
theorem dX8_loads_4 : decode cX8_loads 4 = .ok (.ifCond .ne 9, 3) := by decide +kernel
theorem dX8_loads_7 : decode cX8_loads 7 = .ok (.aload_n 0, 1) := by decide +kernel
theorem dX8_loads_8 : decode cX8_loads 8 = .ok (.iconst 1, 1) := by decide +kernel
theorem dX8_loads_9 : decode cX8_loads 9 = .ok (.invokevirtual 69, 3) := by decide +kernel
theorem dX8_loads_12 : decode cX8_loads 12 = .ok (.ireturn, 1) := by decide +kernel
theorem dX8_loads_13 : decode cX8_loads 13 = .ok (.aload_n 0, 1) := by decide +kernel
theorem dX8_loads_14 : decode cX8_loads 14 = .ok (.getfield 57, 3) := by decide +kernel
theorem dX8_loads_17 : decode cX8_loads 17 = .ok (.iload_n 1, 1) := by decide +kernel
theorem dX8_loads_18 : decode cX8_loads 18 = .ok (.aaload, 1) := by decide +kernel
theorem dX8_loads_19 : decode cX8_loads 19 = .ok (.astore_n 2, 1) := by decide +kernel
theorem dX8_loads_20 : decode cX8_loads 20 = .ok (.aload_n 2, 1) := by decide +kernel
theorem dX8_loads_21 : decode cX8_loads 21 = .ok (.invokevirtual 280, 3) := by decide +kernel
theorem dX8_loads_24 : decode cX8_loads 24 = .ok (.ifCond .eq 9, 3) := by decide +kernel
theorem dX8_loads_27 : decode cX8_loads 27 = .ok (.aload_n 0, 1) := by decide +kernel
theorem dX8_loads_28 : decode cX8_loads 28 = .ok (.iconst 2, 1) := by decide +kernel
theorem dX8_loads_29 : decode cX8_loads 29 = .ok (.invokevirtual 69, 3) := by decide +kernel
theorem dX8_loads_32 : decode cX8_loads 32 = .ok (.ireturn, 1) := by decide +kernel
theorem dX8_loads_33 : decode cX8_loads 33 = .ok (.aload_n 2, 1) := by decide +kernel
theorem dX8_loads_34 : decode cX8_loads 34 = .ok (.getfield 283, 3) := by decide +kernel
theorem dX8_loads_37 : decode cX8_loads 37 = .ok (.aload_n 0, 1) := by decide +kernel
theorem dX8_loads_38 : decode cX8_loads 38 = .ok (.getfield 10, 3) := by decide +kernel
theorem dX8_loads_41 : decode cX8_loads 41 = .ok (.getfield 73, 3) := by decide +kernel
theorem dX8_loads_44 : decode cX8_loads 44 = .ok (.getfield 76, 3) := by decide +kernel
theorem dX8_loads_47 : decode cX8_loads 47 = .ok (.invokestatic 329, 3) := by decide +kernel
theorem dX8_loads_50 : decode cX8_loads 50 = .ok (.istore_n 3, 1) := by decide +kernel
theorem dX8_loads_51 : decode cX8_loads 51 = .ok (.iconst 0, 1) := by decide +kernel
theorem dX8_loads_52 : decode cX8_loads 52 = .ok (.istore 4, 2) := by decide +kernel
theorem dX8_loads_54 : decode cX8_loads 54 = .ok (.iload 4, 2) := by decide +kernel
theorem dX8_loads_56 : decode cX8_loads 56 = .ok (.iload_n 3, 1) := by decide +kernel
theorem dX8_loads_57 : decode cX8_loads 57 = .ok (.if_icmp .ge 48, 3) := by decide +kernel
theorem dX8_loads_60 : decode cX8_loads 60 = .ok (.aload_n 2, 1) := by decide +kernel
theorem dX8_loads_61 : decode cX8_loads 61 = .ok (.getfield 320, 3) := by decide +kernel
theorem dX8_loads_64 : decode cX8_loads 64 = .ok (.iload 4, 2) := by decide +kernel
theorem dX8_loads_66 : decode cX8_loads 66 = .ok (.iaload, 1) := by decide +kernel
theorem dX8_loads_67 : decode cX8_loads 67 = .ok (.iconst 0, 1) := by decide +kernel
theorem dX8_loads_68 : decode cX8_loads 68 = .ok (.bipush 99, 2) := by decide +kernel
theorem dX8_loads_70 : decode cX8_loads 70 = .ok (.invokestatic 65, 3) := by decide +kernel
theorem dX8_loads_73 : decode cX8_loads 73 = .ok (.ifCond .eq 32, 3) := by decide +kernel
theorem dX8_loads_76 : decode cX8_loads 76 = .ok (.aload_n 0, 1) := by decide +kernel
theorem dX8_loads_77 : decode cX8_loads 77 = .ok (.getfield 10, 3) := by decide +kernel
theorem dX8_loads_80 : decode cX8_loads 80 = .ok (.getfield 73, 3) := by decide +kernel
theorem dX8_loads_83 : decode cX8_loads 83 = .ok (.getfield 139, 3) := by decide +kernel
theorem dX8_loads_86 : decode cX8_loads 86 = .ok (.iload 4, 2) := by decide +kernel
theorem dX8_loads_88 : decode cX8_loads 88 = .ok (.aaload, 1) := by decide +kernel
theorem dX8_loads_89 : decode cX8_loads 89 = .ok (.aload_n 2, 1) := by decide +kernel
theorem dX8_loads_90 : decode cX8_loads 90 = .ok (.getfield 320, 3) := by decide +kernel
theorem dX8_loads_93 : decode cX8_loads 93 = .ok (.iload 4, 2) := by decide +kernel
theorem dX8_loads_95 : decode cX8_loads 95 = .ok (.iaload, 1) := by decide +kernel
theorem dX8_loads_96 : decode cX8_loads 96 = .ok (.putfield 154, 3) := by decide +kernel
theorem dX8_loads_99 : decode cX8_loads 99 = .ok (.iinc 4 1, 3) := by decide +kernel
theorem dX8_loads_102 : decode cX8_loads 102 = .ok (.goto (-48), 3) := by decide +kernel
theorem dX8_loads_105 : decode cX8_loads 105 = .ok (.iload 4, 2) := by decide +kernel
theorem dX8_loads_107 : decode cX8_loads 107 = .ok (.ireturn, 1) := by decide +kernel
theorem dX8_judge_0 : decode cX8_judge 0 = .ok (.iload_n 1, 1) := by decide +kernel
theorem dX8_judge_1 : decode cX8_judge 1 = .ok (.invokestatic 277, 3) := by decide +kernel
theorem dX8_judge_4 : decode cX8_judge 4 = .ok (.ifCond .ne 9, 3) := by decide +kernel
theorem dX8_judge_7 : decode cX8_judge 7 = .ok (.aload_n 0, 1) := by decide +kernel
theorem dX8_judge_8 : decode cX8_judge 8 = .ok (.iconst 1, 1) := by decide +kernel
theorem dX8_judge_9 : decode cX8_judge 9 = .ok (.invokevirtual 69, 3) := by decide +kernel
theorem dX8_judge_12 : decode cX8_judge 12 = .ok (.ireturn, 1) := by decide +kernel
theorem dX8_judge_13 : decode cX8_judge 13 = .ok (.aload_n 0, 1) := by decide +kernel
theorem dX8_judge_14 : decode cX8_judge 14 = .ok (.getfield 57, 3) := by decide +kernel
theorem dX8_judge_17 : decode cX8_judge 17 = .ok (.iload_n 1, 1) := by decide +kernel
theorem dX8_judge_18 : decode cX8_judge 18 = .ok (.aaload, 1) := by decide +kernel
theorem dX8_judge_19 : decode cX8_judge 19 = .ok (.astore_n 2, 1) := by decide +kernel
theorem dX8_judge_20 : decode cX8_judge 20 = .ok (.aload_n 2, 1) := by decide +kernel
theorem dX8_judge_21 : decode cX8_judge 21 = .ok (.invokevirtual 280, 3) := by decide +kernel
theorem dX8_judge_24 : decode cX8_judge 24 = .ok (.ifCond .eq 9, 3) := by decide +kernel
theorem dX8_judge_27 : decode cX8_judge 27 = .ok (.aload_n 0, 1) := by decide +kernel
theorem dX8_judge_28 : decode cX8_judge 28 = .ok (.iconst 2, 1) := by decide +kernel
theorem dX8_judge_29 : decode cX8_judge 29 = .ok (.invokevirtual 69, 3) := by decide +kernel
theorem dX8_judge_32 : decode cX8_judge 32 = .ok (.ireturn, 1) := by decide +kernel
theorem dX8_judge_33 : decode cX8_judge 33 = .ok (.aload_n 2, 1) := by decide +kernel
theorem dX8_judge_34 : decode cX8_judge 34 = .ok (.getfield 283, 3) := by decide +kernel
theorem dX8_judge_37 : decode cX8_judge 37 = .ok (.aload_n 0, 1) := by decide +kernel
theorem dX8_judge_38 : decode cX8_judge 38 = .ok (.getfield 10, 3) := by decide +kernel
theorem dX8_judge_41 : decode cX8_judge 41 = .ok (.getfield 73, 3) := by decide +kernel
theorem dX8_judge_44 : decode cX8_judge 44 = .ok (.getfield 76, 3) := by decide +kernel
theorem dX8_judge_47 : decode cX8_judge 47 = .ok (.invokestatic 329, 3) := by decide +kernel
theorem dX8_judge_50 : decode cX8_judge 50 = .ok (.istore_n 3, 1) := by decide +kernel
theorem dX8_judge_51 : decode cX8_judge 51 = .ok (.iconst 0, 1) := by decide +kernel
theorem dX8_judge_52 : decode cX8_judge 52 = .ok (.istore 4, 2) := by decide +kernel
theorem dX8_judge_54 : decode cX8_judge 54 = .ok (.iload 4, 2) := by decide +kernel
theorem dX8_judge_56 : decode cX8_judge 56 = .ok (.iload_n 3, 1) := by decide +kernel
theorem dX8_judge_57 : decode cX8_judge 57 = .ok (.if_icmp .ge 38, 3) := by decide +kernel
theorem dX8_judge_60 : decode cX8_judge 60 = .ok (.aload_n 2, 1) := by decide +kernel
theorem dX8_judge_61 : decode cX8_judge 61 = .ok (.getfield 320, 3) := by decide +kernel
theorem dX8_judge_64 : decode cX8_judge 64 = .ok (.iload 4, 2) := by decide +kernel
theorem dX8_judge_66 : decode cX8_judge 66 = .ok (.iaload, 1) := by decide +kernel
theorem dX8_judge_67 : decode cX8_judge 67 = .ok (.aload_n 0, 1) := by decide +kernel
theorem dX8_judge_68 : decode cX8_judge 68 = .ok (.getfield 10, 3) := by decide +kernel
theorem dX8_judge_71 : decode cX8_judge 71 = .ok (.getfield 73, 3) := by decide +kernel
theorem dX8_judge_74 : decode cX8_judge 74 = .ok (.getfield 139, 3) := by decide +kernel
theorem dX8_judge_77 : decode cX8_judge 77 = .ok (.iload 4, 2) := by decide +kernel
theorem dX8_judge_79 : decode cX8_judge 79 = .ok (.aaload, 1) := by decide +kernel
theorem dX8_judge_80 : decode cX8_judge 80 = .ok (.getfield 160, 3) := by decide +kernel
theorem dX8_judge_83 : decode cX8_judge 83 = .ok (.if_icmp .eq 6, 3) := by decide +kernel
theorem dX8_judge_86 : decode cX8_judge 86 = .ok (.iload 4, 2) := by decide +kernel
theorem dX8_judge_88 : decode cX8_judge 88 = .ok (.ireturn, 1) := by decide +kernel
theorem dX8_judge_89 : decode cX8_judge 89 = .ok (.iinc 4 1, 3) := by decide +kernel
theorem dX8_judge_92 : decode cX8_judge 92 = .ok (.goto (-38), 3) := by decide +kernel
theorem dX8_judge_95 : decode cX8_judge 95 = .ok (.aload_n 2, 1) := by decide +kernel
theorem dX8_judge_96 : decode cX8_judge 96 = .ok (.getfield 283, 3) := by decide +kernel
theorem dX8_judge_99 : decode cX8_judge 99 = .ok (.aload_n 0, 1) := by decide +kernel
theorem dX8_judge_100 : decode cX8_judge 100 = .ok (.getfield 10, 3) := by decide +kernel
theorem dX8_judge_103 : decode cX8_judge 103 = .ok (.getfield 73, 3) := by decide +kernel
theorem dX8_judge_106 : decode cX8_judge 106 = .ok (.getfield 76, 3) := by decide +kernel
theorem dX8_judge_109 : decode cX8_judge 109 = .ok (.if_icmp .ne 7, 3) := by decide +kernel
theorem dX8_judge_112 : decode cX8_judge 112 = .ok (.iconst (-1), 1) := by decide +kernel
theorem dX8_judge_113 : decode cX8_judge 113 = .ok (.goto 4, 3) := by decide +kernel
theorem dX8_judge_116 : decode cX8_judge 116 = .ok (.iload_n 3, 1) := by decide +kernel
theorem dX8_judge_117 : decode cX8_judge 117 = .ok (.ireturn, 1) := by decide +kernel
theorem dX8_image_0 : decode cX8_image 0 = .ok (.aload_n 0, 1) := by decide +kernel
theorem dX8_image_1 : decode cX8_image 1 = .ok (.getfield 16, 3) := by decide +kernel
theorem dX8_image_4 : decode cX8_image 4 = .ok (.aload_n 0, 1) := by decide +kernel
theorem dX8_image_5 : decode cX8_image 5 = .ok (.getfield 10, 3) := by decide +kernel
theorem dX8_image_8 : decode cX8_image 8 = .ok (.invokevirtual 334, 3) := by decide +kernel
theorem dX8_image_11 : decode cX8_image 11 = .ok (.aload_n 0, 1) := by decide +kernel
theorem dX8_image_12 : decode cX8_image 12 = .ok (.dup, 1) := by decide +kernel
theorem dX8_image_13 : decode cX8_image 13 = .ok (.getfield 338, 3) := by decide +kernel
theorem dX8_image_16 : decode cX8_image 16 = .ok (.iconst 1, 1) := by decide +kernel
theorem dX8_image_17 : decode cX8_image 17 = .ok (.iadd, 1) := by decide +kernel
theorem dX8_image_18 : decode cX8_image 18 = .ok (.putfield 338, 3) := by decide +kernel
theorem dX8_image_21 : decode cX8_image 21 = .ok (.aload_n 0, 1) := by decide +kernel
theorem dX8_image_22 : decode cX8_image 22 = .ok (.getfield 338, 3) := by decide +kernel
theorem dX8_image_25 : decode cX8_image 25 = .ok (.ireturn, 1) := by decide +kernel
theorem dX8_restore_0 : decode cX8_restore 0 = .ok (.aload_n 0, 1) := by decide +kernel
theorem dX8_restore_1 : decode cX8_restore 1 = .ok (.getfield 338, 3) := by decide +kernel
theorem dX8_restore_4 : decode cX8_restore 4 = .ok (.ifCond .ne 9, 3) := by decide +kernel
theorem dX8_restore_7 : decode cX8_restore 7 = .ok (.aload_n 0, 1) := by decide +kernel
theorem dX8_restore_8 : decode cX8_restore 8 = .ok (.iconst 2, 1) := by decide +kernel
theorem dX8_restore_9 : decode cX8_restore 9 = .ok (.invokevirtual 69, 3) := by decide +kernel
theorem dX8_restore_12 : decode cX8_restore 12 = .ok (.ireturn, 1) := by decide +kernel
theorem dX8_restore_13 : decode cX8_restore 13 = .ok (.aload_n 0, 1) := by decide +kernel
theorem dX8_restore_14 : decode cX8_restore 14 = .ok (.getfield 10, 3) := by decide +kernel
theorem dX8_restore_17 : decode cX8_restore 17 = .ok (.aload_n 0, 1) := by decide +kernel
theorem dX8_restore_18 : decode cX8_restore 18 = .ok (.getfield 16, 3) := by decide +kernel
theorem dX8_restore_21 : decode cX8_restore 21 = .ok (.invokevirtual 334, 3) := by decide +kernel
theorem dX8_restore_24 : decode cX8_restore 24 = .ok (.aload_n 0, 1) := by decide +kernel
theorem dX8_restore_25 : decode cX8_restore 25 = .ok (.getfield 10, 3) := by decide +kernel
theorem dX8_restore_28 : decode cX8_restore 28 = .ok (.getfield 73, 3) := by decide +kernel
theorem dX8_restore_31 : decode cX8_restore 31 = .ok (.getfield 227, 3) := by decide +kernel
theorem dX8_restore_34 : decode cX8_restore 34 = .ok (.ireturn, 1) := by decide +kernel
theorem dX8_tell_0 : decode cX8_tell 0 = .ok (.aload_n 0, 1) := by decide +kernel
theorem dX8_tell_1 : decode cX8_tell 1 = .ok (.getfield 10, 3) := by decide +kernel
theorem dX8_tell_4 : decode cX8_tell 4 = .ok (.getfield 341, 3) := by decide +kernel
theorem dX8_tell_7 : decode cX8_tell 7 = .ok (.bipush 20, 2) := by decide +kernel
theorem dX8_tell_9 : decode cX8_tell 9 = .ok (.if_icmp .lt 9, 3) := by decide +kernel
theorem dX8_tell_12 : decode cX8_tell 12 = .ok (.aload_n 0, 1) := by decide +kernel
theorem dX8_tell_13 : decode cX8_tell 13 = .ok (.iconst 4, 1) := by decide +kernel
theorem dX8_tell_14 : decode cX8_tell 14 = .ok (.invokevirtual 69, 3) := by decide +kernel
theorem dX8_tell_17 : decode cX8_tell 17 = .ok (.ireturn, 1) := by decide +kernel
theorem dX8_tell_18 : decode cX8_tell 18 = .ok (.aload_n 0, 1) := by decide +kernel
theorem dX8_tell_19 : decode cX8_tell 19 = .ok (.getfield 10, 3) := by decide +kernel
theorem dX8_tell_22 : decode cX8_tell 22 = .ok (.getfield 344, 3) := by decide +kernel
theorem dX8_tell_25 : decode cX8_tell 25 = .ok (.aload_n 0, 1) := by decide +kernel
theorem dX8_tell_26 : decode cX8_tell 26 = .ok (.getfield 10, 3) := by decide +kernel
theorem dX8_tell_29 : decode cX8_tell 29 = .ok (.getfield 341, 3) := by decide +kernel
theorem dX8_tell_32 : decode cX8_tell 32 = .ok (.iload_n 1, 1) := by decide +kernel
theorem dX8_tell_33 : decode cX8_tell 33 = .ok (.iastore, 1) := by decide +kernel
theorem dX8_tell_34 : decode cX8_tell 34 = .ok (.aload_n 0, 1) := by decide +kernel
theorem dX8_tell_35 : decode cX8_tell 35 = .ok (.getfield 10, 3) := by decide +kernel
theorem dX8_tell_38 : decode cX8_tell 38 = .ok (.dup, 1) := by decide +kernel
theorem dX8_tell_39 : decode cX8_tell 39 = .ok (.getfield 341, 3) := by decide +kernel
theorem dX8_tell_42 : decode cX8_tell 42 = .ok (.iconst 1, 1) := by decide +kernel
theorem dX8_tell_43 : decode cX8_tell 43 = .ok (.iadd, 1) := by decide +kernel
theorem dX8_tell_44 : decode cX8_tell 44 = .ok (.putfield 341, 3) := by decide +kernel
theorem dX8_tell_47 : decode cX8_tell 47 = .ok (.aload_n 0, 1) := by decide +kernel
theorem dX8_tell_48 : decode cX8_tell 48 = .ok (.getfield 10, 3) := by decide +kernel
theorem dX8_tell_51 : decode cX8_tell 51 = .ok (.getfield 341, 3) := by decide +kernel
theorem dX8_tell_54 : decode cX8_tell 54 = .ok (.ireturn, 1) := by decide +kernel
theorem dX8_check_0 : decode cX8_check 0 = .ok (.aload_n 0, 1) := by decide +kernel
theorem dX8_check_1 : decode cX8_check 1 = .ok (.getfield 10, 3) := by decide +kernel
theorem dX8_check_4 : decode cX8_check 4 = .ok (.getfield 341, 3) := by decide +kernel
theorem dX8_check_7 : decode cX8_check 7 = .ok (.istore_n 1, 1) := by decide +kernel
theorem dX8_check_8 : decode cX8_check 8 = .ok (.aload_n 0, 1) := by decide +kernel
theorem dX8_check_9 : decode cX8_check 9 = .ok (.getfield 10, 3) := by decide +kernel
theorem dX8_check_12 : decode cX8_check 12 = .ok (.iconst 0, 1) := by decide +kernel
theorem dX8_check_13 : decode cX8_check 13 = .ok (.putfield 341, 3) := by decide +kernel
theorem dX8_check_16 : decode cX8_check 16 = .ok (.aload_n 0, 1) := by decide +kernel
theorem dX8_check_17 : decode cX8_check 17 = .ok (.invokevirtual 243, 3) := by decide +kernel
theorem dX8_check_20 : decode cX8_check 20 = .ok (.iconst 0, 1) := by decide +kernel
theorem dX8_check_21 : decode cX8_check 21 = .ok (.istore_n 2, 1) := by decide +kernel
theorem dX8_check_22 : decode cX8_check 22 = .ok (.iload_n 2, 1) := by decide +kernel
theorem dX8_check_23 : decode cX8_check 23 = .ok (.iload_n 1, 1) := by decide +kernel
theorem dX8_check_24 : decode cX8_check 24 = .ok (.if_icmp .ge 40, 3) := by decide +kernel
theorem dX8_check_27 : decode cX8_check 27 = .ok (.aload_n 0, 1) := by decide +kernel
theorem dX8_check_28 : decode cX8_check 28 = .ok (.getfield 31, 3) := by decide +kernel
theorem dX8_check_31 : decode cX8_check 31 = .ok (.invokevirtual 240, 3) := by decide +kernel
theorem dX8_check_34 : decode cX8_check 34 = .ok (.aload_n 0, 1) := by decide +kernel
theorem dX8_check_35 : decode cX8_check 35 = .ok (.getfield 31, 3) := by decide +kernel
theorem dX8_check_38 : decode cX8_check 38 = .ok (.iconst 2, 1) := by decide +kernel
theorem dX8_check_39 : decode cX8_check 39 = .ok (.invokevirtual 234, 3) := by decide +kernel
theorem dX8_check_42 : decode cX8_check 42 = .ok (.aload_n 0, 1) := by decide +kernel
theorem dX8_check_43 : decode cX8_check 43 = .ok (.getfield 10, 3) := by decide +kernel
theorem dX8_check_46 : decode cX8_check 46 = .ok (.getfield 344, 3) := by decide +kernel
theorem dX8_check_49 : decode cX8_check 49 = .ok (.iload_n 2, 1) := by decide +kernel
theorem dX8_check_50 : decode cX8_check 50 = .ok (.iaload, 1) := by decide +kernel
theorem dX8_check_51 : decode cX8_check 51 = .ok (.if_icmp .eq 7, 3) := by decide +kernel
theorem dX8_check_54 : decode cX8_check 54 = .ok (.iconst 1, 1) := by decide +kernel
theorem dX8_check_55 : decode cX8_check 55 = .ok (.iload_n 2, 1) := by decide +kernel
theorem dX8_check_56 : decode cX8_check 56 = .ok (.iadd, 1) := by decide +kernel
theorem dX8_check_57 : decode cX8_check 57 = .ok (.ireturn, 1) := by decide +kernel
theorem dX8_check_58 : decode cX8_check 58 = .ok (.iinc 2 1, 3) := by decide +kernel
theorem dX8_check_61 : decode cX8_check 61 = .ok (.goto (-39), 3) := by decide +kernel
theorem dX8_check_64 : decode cX8_check 64 = .ok (.iconst 0, 1) := by decide +kernel
theorem dX8_check_65 : decode cX8_check 65 = .ok (.ireturn, 1) := by decide +kernel
theorem dX8_count_0 : decode cX8_count 0 = .ok (.iload_n 1, 1) := by decide +kernel
theorem dX8_count_1 : decode cX8_count 1 = .ok (.tableswitch 215 0 13 #[71, 82, 93, 104, 115, 126, 137, 148, 159, 171, 183, 191, 199, 207], 71) := by decide +kernel
theorem dX8_count_72 : decode cX8_count 72 = .ok (.aload_n 0, 1) := by decide +kernel
theorem dX8_count_73 : decode cX8_count 73 = .ok (.getfield 10, 3) := by decide +kernel
theorem dX8_count_76 : decode cX8_count 76 = .ok (.getfield 73, 3) := by decide +kernel
theorem dX8_count_79 : decode cX8_count 79 = .ok (.getfield 80, 3) := by decide +kernel
theorem dX8_count_82 : decode cX8_count 82 = .ok (.ireturn, 1) := by decide +kernel
theorem dX8_count_83 : decode cX8_count 83 = .ok (.aload_n 0, 1) := by decide +kernel
theorem dX8_count_84 : decode cX8_count 84 = .ok (.getfield 10, 3) := by decide +kernel
theorem dX8_count_87 : decode cX8_count 87 = .ok (.getfield 73, 3) := by decide +kernel
theorem dX8_count_90 : decode cX8_count 90 = .ok (.getfield 91, 3) := by decide +kernel
theorem dX8_count_93 : decode cX8_count 93 = .ok (.ireturn, 1) := by decide +kernel
theorem dX8_count_94 : decode cX8_count 94 = .ok (.aload_n 0, 1) := by decide +kernel
theorem dX8_count_95 : decode cX8_count 95 = .ok (.getfield 10, 3) := by decide +kernel
theorem dX8_count_98 : decode cX8_count 98 = .ok (.getfield 73, 3) := by decide +kernel
theorem dX8_count_101 : decode cX8_count 101 = .ok (.getfield 94, 3) := by decide +kernel
theorem dX8_count_104 : decode cX8_count 104 = .ok (.ireturn, 1) := by decide +kernel
theorem dX8_count_105 : decode cX8_count 105 = .ok (.aload_n 0, 1) := by decide +kernel
theorem dX8_count_106 : decode cX8_count 106 = .ok (.getfield 10, 3) := by decide +kernel
theorem dX8_count_109 : decode cX8_count 109 = .ok (.getfield 73, 3) := by decide +kernel
theorem dX8_count_112 : decode cX8_count 112 = .ok (.getfield 227, 3) := by decide +kernel
theorem dX8_count_115 : decode cX8_count 115 = .ok (.ireturn, 1) := by decide +kernel
theorem dX8_count_116 : decode cX8_count 116 = .ok (.aload_n 0, 1) := by decide +kernel
theorem dX8_count_117 : decode cX8_count 117 = .ok (.getfield 10, 3) := by decide +kernel
theorem dX8_count_120 : decode cX8_count 120 = .ok (.getfield 73, 3) := by decide +kernel
theorem dX8_count_123 : decode cX8_count 123 = .ok (.getfield 97, 3) := by decide +kernel
theorem dX8_count_126 : decode cX8_count 126 = .ok (.ireturn, 1) := by decide +kernel
theorem dX8_count_127 : decode cX8_count 127 = .ok (.aload_n 0, 1) := by decide +kernel
theorem dX8_count_128 : decode cX8_count 128 = .ok (.getfield 10, 3) := by decide +kernel
theorem dX8_count_131 : decode cX8_count 131 = .ok (.getfield 73, 3) := by decide +kernel
theorem dX8_count_134 : decode cX8_count 134 = .ok (.getfield 119, 3) := by decide +kernel
theorem dX8_count_137 : decode cX8_count 137 = .ok (.ireturn, 1) := by decide +kernel
theorem dX8_count_138 : decode cX8_count 138 = .ok (.aload_n 0, 1) := by decide +kernel
theorem dX8_count_139 : decode cX8_count 139 = .ok (.getfield 10, 3) := by decide +kernel
theorem dX8_count_142 : decode cX8_count 142 = .ok (.getfield 73, 3) := by decide +kernel
theorem dX8_count_145 : decode cX8_count 145 = .ok (.getfield 76, 3) := by decide +kernel
theorem dX8_count_148 : decode cX8_count 148 = .ok (.ireturn, 1) := by decide +kernel
theorem dX8_count_149 : decode cX8_count 149 = .ok (.aload_n 0, 1) := by decide +kernel
theorem dX8_count_150 : decode cX8_count 150 = .ok (.getfield 10, 3) := by decide +kernel
theorem dX8_count_153 : decode cX8_count 153 = .ok (.getfield 73, 3) := by decide +kernel
theorem dX8_count_156 : decode cX8_count 156 = .ok (.getfield 190, 3) := by decide +kernel
theorem dX8_count_159 : decode cX8_count 159 = .ok (.ireturn, 1) := by decide +kernel
theorem dX8_count_160 : decode cX8_count 160 = .ok (.aload_n 0, 1) := by decide +kernel
theorem dX8_count_161 : decode cX8_count 161 = .ok (.getfield 10, 3) := by decide +kernel
theorem dX8_count_164 : decode cX8_count 164 = .ok (.getfield 73, 3) := by decide +kernel
theorem dX8_count_167 : decode cX8_count 167 = .ok (.iconst 2, 1) := by decide +kernel
theorem dX8_count_168 : decode cX8_count 168 = .ok (.invokevirtual 256, 3) := by decide +kernel
theorem dX8_count_171 : decode cX8_count 171 = .ok (.ireturn, 1) := by decide +kernel
theorem dX8_count_172 : decode cX8_count 172 = .ok (.aload_n 0, 1) := by decide +kernel
theorem dX8_count_173 : decode cX8_count 173 = .ok (.getfield 10, 3) := by decide +kernel
theorem dX8_count_176 : decode cX8_count 176 = .ok (.getfield 73, 3) := by decide +kernel
theorem dX8_count_179 : decode cX8_count 179 = .ok (.iconst 3, 1) := by decide +kernel
theorem dX8_count_180 : decode cX8_count 180 = .ok (.invokevirtual 256, 3) := by decide +kernel
theorem dX8_count_183 : decode cX8_count 183 = .ok (.ireturn, 1) := by decide +kernel
theorem dX8_count_184 : decode cX8_count 184 = .ok (.aload_n 0, 1) := by decide +kernel
theorem dX8_count_185 : decode cX8_count 185 = .ok (.getfield 10, 3) := by decide +kernel
theorem dX8_count_188 : decode cX8_count 188 = .ok (.getfield 196, 3) := by decide +kernel
theorem dX8_count_191 : decode cX8_count 191 = .ok (.ireturn, 1) := by decide +kernel
theorem dX8_count_192 : decode cX8_count 192 = .ok (.aload_n 0, 1) := by decide +kernel
theorem dX8_count_193 : decode cX8_count 193 = .ok (.getfield 10, 3) := by decide +kernel
theorem dX8_count_196 : decode cX8_count 196 = .ok (.getfield 341, 3) := by decide +kernel
theorem dX8_count_199 : decode cX8_count 199 = .ok (.ireturn, 1) := by decide +kernel
theorem dX8_count_200 : decode cX8_count 200 = .ok (.aload_n 0, 1) := by decide +kernel
theorem dX8_count_201 : decode cX8_count 201 = .ok (.getfield 51, 3) := by decide +kernel
theorem dX8_count_204 : decode cX8_count 204 = .ok (.getfield 301, 3) := by decide +kernel
theorem dX8_count_207 : decode cX8_count 207 = .ok (.ireturn, 1) := by decide +kernel
theorem dX8_count_208 : decode cX8_count 208 = .ok (.aload_n 0, 1) := by decide +kernel
theorem dX8_count_209 : decode cX8_count 209 = .ok (.getfield 10, 3) := by decide +kernel
theorem dX8_count_212 : decode cX8_count 212 = .ok (.getfield 294, 3) := by decide +kernel
theorem dX8_count_215 : decode cX8_count 215 = .ok (.ireturn, 1) := by decide +kernel
theorem dX8_count_216 : decode cX8_count 216 = .ok (.aload_n 0, 1) := by decide +kernel
theorem dX8_count_217 : decode cX8_count 217 = .ok (.iconst 1, 1) := by decide +kernel
theorem dX8_count_218 : decode cX8_count 218 = .ok (.invokevirtual 69, 3) := by decide +kernel
theorem dX8_count_221 : decode cX8_count 221 = .ok (.ireturn, 1) := by decide +kernel
theorem dX8_told_0 : decode cX8_told 0 = .ok (.iload_n 1, 1) := by decide +kernel
theorem dX8_told_1 : decode cX8_told 1 = .ok (.iconst 1, 1) := by decide +kernel
theorem dX8_told_2 : decode cX8_told 2 = .ok (.iconst 5, 1) := by decide +kernel
theorem dX8_told_3 : decode cX8_told 3 = .ok (.invokestatic 65, 3) := by decide +kernel
theorem dX8_told_6 : decode cX8_told 6 = .ok (.ifCond .eq 12, 3) := by decide +kernel
theorem dX8_told_9 : decode cX8_told 9 = .ok (.aload_n 0, 1) := by decide +kernel
theorem dX8_told_10 : decode cX8_told 10 = .ok (.getfield 61, 3) := by decide +kernel
theorem dX8_told_13 : decode cX8_told 13 = .ok (.iload_n 1, 1) := by decide +kernel
theorem dX8_told_14 : decode cX8_told 14 = .ok (.iaload, 1) := by decide +kernel
theorem dX8_told_15 : decode cX8_told 15 = .ok (.goto 8, 3) := by decide +kernel
theorem dX8_told_18 : decode cX8_told 18 = .ok (.aload_n 0, 1) := by decide +kernel
theorem dX8_told_19 : decode cX8_told 19 = .ok (.iconst 1, 1) := by decide +kernel
theorem dX8_told_20 : decode cX8_told 20 = .ok (.invokevirtual 69, 3) := by decide +kernel
theorem dX8_told_23 : decode cX8_told 23 = .ok (.ireturn, 1) := by decide +kernel
theorem dX8_refuse_0 : decode cX8_refuse 0 = .ok (.iload_n 1, 1) := by decide +kernel
theorem dX8_refuse_1 : decode cX8_refuse 1 = .ok (.iconst 1, 1) := by decide +kernel
theorem dX8_refuse_2 : decode cX8_refuse 2 = .ok (.iconst 5, 1) := by decide +kernel
theorem dX8_refuse_3 : decode cX8_refuse 3 = .ok (.invokestatic 65, 3) := by decide +kernel
theorem dX8_refuse_6 : decode cX8_refuse 6 = .ok (.ifCond .eq 13, 3) := by decide +kernel
theorem dX8_refuse_9 : decode cX8_refuse 9 = .ok (.aload_n 0, 1) := by decide +kernel
theorem dX8_refuse_10 : decode cX8_refuse 10 = .ok (.getfield 61, 3) := by decide +kernel
theorem dX8_refuse_13 : decode cX8_refuse 13 = .ok (.iload_n 1, 1) := by decide +kernel
theorem dX8_refuse_14 : decode cX8_refuse 14 = .ok (.dup2, 1) := by decide +kernel
theorem dX8_refuse_15 : decode cX8_refuse 15 = .ok (.iaload, 1) := by decide +kernel
theorem dX8_refuse_16 : decode cX8_refuse 16 = .ok (.iconst 1, 1) := by decide +kernel
theorem dX8_refuse_17 : decode cX8_refuse 17 = .ok (.iadd, 1) := by decide +kernel
theorem dX8_refuse_18 : decode cX8_refuse 18 = .ok (.iastore, 1) := by decide +kernel
theorem dX8_refuse_19 : decode cX8_refuse 19 = .ok (.ldc_w 347, 3) := by decide +kernel
theorem dX8_refuse_22 : decode cX8_refuse 22 = .ok (.iload_n 1, 1) := by decide +kernel
theorem dX8_refuse_23 : decode cX8_refuse 23 = .ok (.isub, 1) := by decide +kernel
theorem dX8_refuse_24 : decode cX8_refuse 24 = .ok (.ireturn, 1) := by decide +kernel
theorem dX8_isWithin_0 : decode cX8_isWithin 0 = .ok (.iload_n 0, 1) := by decide +kernel
theorem dX8_isWithin_1 : decode cX8_isWithin 1 = .ok (.iload_n 1, 1) := by decide +kernel
theorem dX8_isWithin_2 : decode cX8_isWithin 2 = .ok (.if_icmp .lt 12, 3) := by decide +kernel
theorem dX8_isWithin_5 : decode cX8_isWithin 5 = .ok (.iload_n 0, 1) := by decide +kernel
theorem dX8_isWithin_6 : decode cX8_isWithin 6 = .ok (.iload_n 2, 1) := by decide +kernel
theorem dX8_isWithin_7 : decode cX8_isWithin 7 = .ok (.if_icmp .gt 7, 3) := by decide +kernel
theorem dX8_isWithin_10 : decode cX8_isWithin 10 = .ok (.iconst 1, 1) := by decide +kernel
theorem dX8_isWithin_11 : decode cX8_isWithin 11 = .ok (.goto 4, 3) := by decide +kernel
theorem dX8_isWithin_14 : decode cX8_isWithin 14 = .ok (.iconst 0, 1) := by decide +kernel
theorem dX8_isWithin_15 : decode cX8_isWithin 15 = .ok (.ireturn, 1) := by decide +kernel
theorem dX8_isSetOf_0 : decode cX8_isSetOf 0 = .ok (.iload_n 0, 1) := by decide +kernel
theorem dX8_isSetOf_1 : decode cX8_isSetOf 1 = .ok (.ifCond .lt 14, 3) := by decide +kernel
theorem dX8_isSetOf_4 : decode cX8_isSetOf 4 = .ok (.iload_n 0, 1) := by decide +kernel
theorem dX8_isSetOf_5 : decode cX8_isSetOf 5 = .ok (.iconst 1, 1) := by decide +kernel
theorem dX8_isSetOf_6 : decode cX8_isSetOf 6 = .ok (.iload_n 1, 1) := by decide +kernel
theorem dX8_isSetOf_7 : decode cX8_isSetOf 7 = .ok (.ishl, 1) := by decide +kernel
theorem dX8_isSetOf_8 : decode cX8_isSetOf 8 = .ok (.if_icmp .ge 7, 3) := by decide +kernel
theorem dX8_isSetOf_11 : decode cX8_isSetOf 11 = .ok (.iconst 1, 1) := by decide +kernel
theorem dX8_isSetOf_12 : decode cX8_isSetOf 12 = .ok (.goto 4, 3) := by decide +kernel
theorem dX8_isSetOf_15 : decode cX8_isSetOf 15 = .ok (.iconst 0, 1) := by decide +kernel
theorem dX8_isSetOf_16 : decode cX8_isSetOf 16 = .ok (.ireturn, 1) := by decide +kernel
theorem dX8_asNumber_0 : decode cX8_asNumber 0 = .ok (.iload_n 0, 1) := by decide +kernel
theorem dX8_asNumber_1 : decode cX8_asNumber 1 = .ok (.ifCond .eq 7, 3) := by decide +kernel
theorem dX8_asNumber_4 : decode cX8_asNumber 4 = .ok (.iconst 1, 1) := by decide +kernel
theorem dX8_asNumber_5 : decode cX8_asNumber 5 = .ok (.goto 4, 3) := by decide +kernel
theorem dX8_asNumber_8 : decode cX8_asNumber 8 = .ok (.iconst 0, 1) := by decide +kernel
theorem dX8_asNumber_9 : decode cX8_asNumber 9 = .ok (.ireturn, 1) := by decide +kernel
theorem dX8_isUse_0 : decode cX8_isUse 0 = .ok (.iload_n 0, 1) := by decide +kernel
theorem dX8_isUse_1 : decode cX8_isUse 1 = .ok (.ifCond .eq 8, 3) := by decide +kernel
theorem dX8_isUse_4 : decode cX8_isUse 4 = .ok (.iload_n 0, 1) := by decide +kernel
theorem dX8_isUse_5 : decode cX8_isUse 5 = .ok (.iconst 1, 1) := by decide +kernel
theorem dX8_isUse_6 : decode cX8_isUse 6 = .ok (.if_icmp .ne 7, 3) := by decide +kernel
theorem dX8_isUse_9 : decode cX8_isUse 9 = .ok (.iconst 1, 1) := by decide +kernel
theorem dX8_isUse_10 : decode cX8_isUse 10 = .ok (.goto 4, 3) := by decide +kernel
theorem dX8_isUse_13 : decode cX8_isUse 13 = .ok (.iconst 0, 1) := by decide +kernel
theorem dX8_isUse_14 : decode cX8_isUse 14 = .ok (.ireturn, 1) := by decide +kernel
theorem dX8_isSheet_0 : decode cX8_isSheet 0 = .ok (.iload_n 0, 1) := by decide +kernel
theorem dX8_isSheet_1 : decode cX8_isSheet 1 = .ok (.iconst 0, 1) := by decide +kernel
theorem dX8_isSheet_2 : decode cX8_isSheet 2 = .ok (.iconst 3, 1) := by decide +kernel
theorem dX8_isSheet_3 : decode cX8_isSheet 3 = .ok (.invokestatic 65, 3) := by decide +kernel
theorem dX8_isSheet_6 : decode cX8_isSheet 6 = .ok (.ireturn, 1) := by decide +kernel
theorem dX8_isKindAndNumber_0 : decode cX8_isKindAndNumber 0 = .ok (.iload_n 0, 1) := by decide +kernel
theorem dX8_isKindAndNumber_1 : decode cX8_isKindAndNumber 1 = .ok (.iconst 0, 1) := by decide +kernel
theorem dX8_isKindAndNumber_2 : decode cX8_isKindAndNumber 2 = .ok (.bipush 69, 2) := by decide +kernel
theorem dX8_isKindAndNumber_4 : decode cX8_isKindAndNumber 4 = .ok (.invokestatic 65, 3) := by decide +kernel
theorem dX8_isKindAndNumber_7 : decode cX8_isKindAndNumber 7 = .ok (.ireturn, 1) := by decide +kernel
theorem dX8_isPlace_0 : decode cX8_isPlace 0 = .ok (.iload_n 1, 1) := by decide +kernel
theorem dX8_isPlace_1 : decode cX8_isPlace 1 = .ok (.iconst 0, 1) := by decide +kernel
theorem dX8_isPlace_2 : decode cX8_isPlace 2 = .ok (.aload_n 0, 1) := by decide +kernel
theorem dX8_isPlace_3 : decode cX8_isPlace 3 = .ok (.getfield 10, 3) := by decide +kernel
theorem dX8_isPlace_6 : decode cX8_isPlace 6 = .ok (.getfield 73, 3) := by decide +kernel
theorem dX8_isPlace_9 : decode cX8_isPlace 9 = .ok (.getfield 80, 3) := by decide +kernel
theorem dX8_isPlace_12 : decode cX8_isPlace 12 = .ok (.iconst 1, 1) := by decide +kernel
theorem dX8_isPlace_13 : decode cX8_isPlace 13 = .ok (.isub, 1) := by decide +kernel
theorem dX8_isPlace_14 : decode cX8_isPlace 14 = .ok (.invokestatic 65, 3) := by decide +kernel
theorem dX8_isPlace_17 : decode cX8_isPlace 17 = .ok (.ireturn, 1) := by decide +kernel
theorem dX8_isTurner_0 : decode cX8_isTurner 0 = .ok (.iload_n 1, 1) := by decide +kernel
theorem dX8_isTurner_1 : decode cX8_isTurner 1 = .ok (.iconst 0, 1) := by decide +kernel
theorem dX8_isTurner_2 : decode cX8_isTurner 2 = .ok (.aload_n 0, 1) := by decide +kernel
theorem dX8_isTurner_3 : decode cX8_isTurner 3 = .ok (.getfield 10, 3) := by decide +kernel
theorem dX8_isTurner_6 : decode cX8_isTurner 6 = .ok (.getfield 73, 3) := by decide +kernel
theorem dX8_isTurner_9 : decode cX8_isTurner 9 = .ok (.getfield 97, 3) := by decide +kernel
theorem dX8_isTurner_12 : decode cX8_isTurner 12 = .ok (.iconst 1, 1) := by decide +kernel
theorem dX8_isTurner_13 : decode cX8_isTurner 13 = .ok (.isub, 1) := by decide +kernel
theorem dX8_isTurner_14 : decode cX8_isTurner 14 = .ok (.invokestatic 65, 3) := by decide +kernel
theorem dX8_isTurner_17 : decode cX8_isTurner 17 = .ok (.ireturn, 1) := by decide +kernel
theorem dX8_isCrosser_0 : decode cX8_isCrosser 0 = .ok (.iload_n 1, 1) := by decide +kernel
theorem dX8_isCrosser_1 : decode cX8_isCrosser 1 = .ok (.iconst 0, 1) := by decide +kernel
theorem dX8_isCrosser_2 : decode cX8_isCrosser 2 = .ok (.aload_n 0, 1) := by decide +kernel
theorem dX8_isCrosser_3 : decode cX8_isCrosser 3 = .ok (.getfield 10, 3) := by decide +kernel
theorem dX8_isCrosser_6 : decode cX8_isCrosser 6 = .ok (.getfield 73, 3) := by decide +kernel
theorem dX8_isCrosser_9 : decode cX8_isCrosser 9 = .ok (.getfield 76, 3) := by decide +kernel
theorem dX8_isCrosser_12 : decode cX8_isCrosser 12 = .ok (.iconst 1, 1) := by decide +kernel
theorem dX8_isCrosser_13 : decode cX8_isCrosser 13 = .ok (.isub, 1) := by decide +kernel
theorem dX8_isCrosser_14 : decode cX8_isCrosser 14 = .ok (.invokestatic 65, 3) := by decide +kernel
theorem dX8_isCrosser_17 : decode cX8_isCrosser 17 = .ok (.ireturn, 1) := by decide +kernel
theorem dX8_canBecome_0 : decode cX8_canBecome 0 = .ok (.iload_n 1, 1) := by decide +kernel
theorem dX8_canBecome_1 : decode cX8_canBecome 1 = .ok (.tableswitch 73 0 3 #[31, 39, 47, 53], 31) := by decide +kernel
theorem dX8_canBecome_32 : decode cX8_canBecome 32 = .ok (.iload_n 2, 1) := by decide +kernel
theorem dX8_canBecome_33 : decode cX8_canBecome 33 = .ok (.iconst 0, 1) := by decide +kernel
theorem dX8_canBecome_34 : decode cX8_canBecome 34 = .ok (.bipush 9, 2) := by decide +kernel
theorem dX8_canBecome_36 : decode cX8_canBecome 36 = .ok (.invokestatic 65, 3) := by decide +kernel
theorem dX8_canBecome_39 : decode cX8_canBecome 39 = .ok (.ireturn, 1) := by decide +kernel
theorem dX8_canBecome_40 : decode cX8_canBecome 40 = .ok (.iload_n 2, 1) := by decide +kernel
theorem dX8_canBecome_41 : decode cX8_canBecome 41 = .ok (.iconst 0, 1) := by decide +kernel
theorem dX8_canBecome_42 : decode cX8_canBecome 42 = .ok (.bipush 99, 2) := by decide +kernel
theorem dX8_canBecome_44 : decode cX8_canBecome 44 = .ok (.invokestatic 65, 3) := by decide +kernel
theorem dX8_canBecome_47 : decode cX8_canBecome 47 = .ok (.ireturn, 1) := by decide +kernel
theorem dX8_canBecome_48 : decode cX8_canBecome 48 = .ok (.aload_n 0, 1) := by decide +kernel
theorem dX8_canBecome_49 : decode cX8_canBecome 49 = .ok (.iload_n 2, 1) := by decide +kernel
theorem dX8_canBecome_50 : decode cX8_canBecome 50 = .ok (.invokevirtual 129, 3) := by decide +kernel
theorem dX8_canBecome_53 : decode cX8_canBecome 53 = .ok (.ireturn, 1) := by decide +kernel
theorem dX8_canBecome_54 : decode cX8_canBecome 54 = .ok (.iload_n 2, 1) := by decide +kernel
theorem dX8_canBecome_55 : decode cX8_canBecome 55 = .ok (.ifCond .eq 13, 3) := by decide +kernel
theorem dX8_canBecome_58 : decode cX8_canBecome 58 = .ok (.iload_n 2, 1) := by decide +kernel
theorem dX8_canBecome_59 : decode cX8_canBecome 59 = .ok (.iconst 2, 1) := by decide +kernel
theorem dX8_canBecome_60 : decode cX8_canBecome 60 = .ok (.if_icmp .eq 8, 3) := by decide +kernel
theorem dX8_canBecome_63 : decode cX8_canBecome 63 = .ok (.iload_n 2, 1) := by decide +kernel
theorem dX8_canBecome_64 : decode cX8_canBecome 64 = .ok (.iconst 3, 1) := by decide +kernel
theorem dX8_canBecome_65 : decode cX8_canBecome 65 = .ok (.if_icmp .ne 7, 3) := by decide +kernel
theorem dX8_canBecome_68 : decode cX8_canBecome 68 = .ok (.iconst 1, 1) := by decide +kernel
theorem dX8_canBecome_69 : decode cX8_canBecome 69 = .ok (.goto 4, 3) := by decide +kernel
theorem dX8_canBecome_72 : decode cX8_canBecome 72 = .ok (.iconst 0, 1) := by decide +kernel
theorem dX8_canBecome_73 : decode cX8_canBecome 73 = .ok (.ireturn, 1) := by decide +kernel
theorem dX8_canBecome_74 : decode cX8_canBecome 74 = .ok (.iconst 0, 1) := by decide +kernel
theorem dX8_canBecome_75 : decode cX8_canBecome 75 = .ok (.ireturn, 1) := by decide +kernel
theorem dX8_thinkOfNow_0 : decode cX8_thinkOfNow 0 = .ok (.aload_n 0, 1) := by decide +kernel
theorem dX8_thinkOfNow_1 : decode cX8_thinkOfNow 1 = .ok (.getfield 31, 3) := by decide +kernel
theorem dX8_thinkOfNow_4 : decode cX8_thinkOfNow 4 = .ok (.aload_n 0, 1) := by decide +kernel
theorem dX8_thinkOfNow_5 : decode cX8_thinkOfNow 5 = .ok (.getfield 10, 3) := by decide +kernel
theorem dX8_thinkOfNow_8 : decode cX8_thinkOfNow 8 = .ok (.getfield 73, 3) := by decide +kernel
theorem dX8_thinkOfNow_11 : decode cX8_thinkOfNow 11 = .ok (.invokevirtual 348, 3) := by decide +kernel
theorem dX8_thinkOfNow_14 : decode cX8_thinkOfNow 14 = .ok (.return_, 1) := by decide +kernel
theorem dX8_isNorthIfHeWaits_0 : decode cX8_isNorthIfHeWaits 0 = .ok (.iconst 1, 1) := by decide +kernel
theorem dX8_isNorthIfHeWaits_1 : decode cX8_isNorthIfHeWaits 1 = .ok (.iload_n 1, 1) := by decide +kernel
theorem dX8_isNorthIfHeWaits_2 : decode cX8_isNorthIfHeWaits 2 = .ok (.ishl, 1) := by decide +kernel
theorem dX8_isNorthIfHeWaits_3 : decode cX8_isNorthIfHeWaits 3 = .ok (.istore_n 3, 1) := by decide +kernel
theorem dX8_isNorthIfHeWaits_4 : decode cX8_isNorthIfHeWaits 4 = .ok (.aload_n 0, 1) := by decide +kernel
theorem dX8_isNorthIfHeWaits_5 : decode cX8_isNorthIfHeWaits 5 = .ok (.invokevirtual 243, 3) := by decide +kernel
theorem dX8_isNorthIfHeWaits_8 : decode cX8_isNorthIfHeWaits 8 = .ok (.aload_n 0, 1) := by decide +kernel
theorem dX8_isNorthIfHeWaits_9 : decode cX8_isNorthIfHeWaits 9 = .ok (.getfield 31, 3) := by decide +kernel
theorem dX8_isNorthIfHeWaits_12 : decode cX8_isNorthIfHeWaits 12 = .ok (.dup, 1) := by decide +kernel
theorem dX8_isNorthIfHeWaits_13 : decode cX8_isNorthIfHeWaits 13 = .ok (.getfield 190, 3) := by decide +kernel
theorem dX8_isNorthIfHeWaits_16 : decode cX8_isNorthIfHeWaits 16 = .ok (.iload_n 3, 1) := by decide +kernel
theorem dX8_isNorthIfHeWaits_17 : decode cX8_isNorthIfHeWaits 17 = .ok (.iconst (-1), 1) := by decide +kernel
theorem dX8_isNorthIfHeWaits_18 : decode cX8_isNorthIfHeWaits 18 = .ok (.ixor, 1) := by decide +kernel
theorem dX8_isNorthIfHeWaits_19 : decode cX8_isNorthIfHeWaits 19 = .ok (.iand, 1) := by decide +kernel
theorem dX8_isNorthIfHeWaits_20 : decode cX8_isNorthIfHeWaits 20 = .ok (.putfield 190, 3) := by decide +kernel
theorem dX8_isNorthIfHeWaits_23 : decode cX8_isNorthIfHeWaits 23 = .ok (.aload_n 0, 1) := by decide +kernel
theorem dX8_isNorthIfHeWaits_24 : decode cX8_isNorthIfHeWaits 24 = .ok (.getfield 31, 3) := by decide +kernel
theorem dX8_isNorthIfHeWaits_27 : decode cX8_isNorthIfHeWaits 27 = .ok (.iload_n 2, 1) := by decide +kernel
theorem dX8_isNorthIfHeWaits_28 : decode cX8_isNorthIfHeWaits 28 = .ok (.invokevirtual 231, 3) := by decide +kernel
theorem dX8_isNorthIfHeWaits_31 : decode cX8_isNorthIfHeWaits 31 = .ok (.aload_n 0, 1) := by decide +kernel
theorem dX8_isNorthIfHeWaits_32 : decode cX8_isNorthIfHeWaits 32 = .ok (.getfield 31, 3) := by decide +kernel
theorem dX8_isNorthIfHeWaits_35 : decode cX8_isNorthIfHeWaits 35 = .ok (.dup, 1) := by decide +kernel
theorem dX8_isNorthIfHeWaits_36 : decode cX8_isNorthIfHeWaits 36 = .ok (.getfield 190, 3) := by decide +kernel
theorem dX8_isNorthIfHeWaits_39 : decode cX8_isNorthIfHeWaits 39 = .ok (.iload_n 3, 1) := by decide +kernel
theorem dX8_isNorthIfHeWaits_40 : decode cX8_isNorthIfHeWaits 40 = .ok (.ior, 1) := by decide +kernel
theorem dX8_isNorthIfHeWaits_41 : decode cX8_isNorthIfHeWaits 41 = .ok (.putfield 190, 3) := by decide +kernel
theorem dX8_isNorthIfHeWaits_44 : decode cX8_isNorthIfHeWaits 44 = .ok (.aload_n 0, 1) := by decide +kernel
theorem dX8_isNorthIfHeWaits_45 : decode cX8_isNorthIfHeWaits 45 = .ok (.getfield 31, 3) := by decide +kernel
theorem dX8_isNorthIfHeWaits_48 : decode cX8_isNorthIfHeWaits 48 = .ok (.sipush 200, 3) := by decide +kernel
theorem dX8_isNorthIfHeWaits_51 : decode cX8_isNorthIfHeWaits 51 = .ok (.iload_n 2, 1) := by decide +kernel
theorem dX8_isNorthIfHeWaits_52 : decode cX8_isNorthIfHeWaits 52 = .ok (.isub, 1) := by decide +kernel
theorem dX8_isNorthIfHeWaits_53 : decode cX8_isNorthIfHeWaits 53 = .ok (.invokevirtual 246, 3) := by decide +kernel
theorem dX8_isNorthIfHeWaits_56 : decode cX8_isNorthIfHeWaits 56 = .ok (.aload_n 0, 1) := by decide +kernel
theorem dX8_isNorthIfHeWaits_57 : decode cX8_isNorthIfHeWaits 57 = .ok (.getfield 31, 3) := by decide +kernel
theorem dX8_isNorthIfHeWaits_60 : decode cX8_isNorthIfHeWaits 60 = .ok (.getfield 139, 3) := by decide +kernel
theorem dX8_isNorthIfHeWaits_63 : decode cX8_isNorthIfHeWaits 63 = .ok (.iload_n 1, 1) := by decide +kernel
theorem dX8_isNorthIfHeWaits_64 : decode cX8_isNorthIfHeWaits 64 = .ok (.aaload, 1) := by decide +kernel
theorem dX8_isNorthIfHeWaits_65 : decode cX8_isNorthIfHeWaits 65 = .ok (.getfield 160, 3) := by decide +kernel
theorem dX8_isNorthIfHeWaits_68 : decode cX8_isNorthIfHeWaits 68 = .ok (.iconst 2, 1) := by decide +kernel
theorem dX8_isNorthIfHeWaits_69 : decode cX8_isNorthIfHeWaits 69 = .ok (.if_icmp .ne 7, 3) := by decide +kernel
theorem dX8_isNorthIfHeWaits_72 : decode cX8_isNorthIfHeWaits 72 = .ok (.iconst 1, 1) := by decide +kernel
theorem dX8_isNorthIfHeWaits_73 : decode cX8_isNorthIfHeWaits 73 = .ok (.goto 4, 3) := by decide +kernel
theorem dX8_isNorthIfHeWaits_76 : decode cX8_isNorthIfHeWaits 76 = .ok (.iconst 0, 1) := by decide +kernel
theorem dX8_isNorthIfHeWaits_77 : decode cX8_isNorthIfHeWaits 77 = .ok (.ireturn, 1) := by decide +kernel
theorem dX8_isRhymeFor_0 : decode cX8_isRhymeFor 0 = .ok (.aload_n 0, 1) := by decide +kernel
theorem dX8_isRhymeFor_1 : decode cX8_isRhymeFor 1 = .ok (.invokevirtual 243, 3) := by decide +kernel
theorem dX8_isRhymeFor_4 : decode cX8_isRhymeFor 4 = .ok (.aload_n 0, 1) := by decide +kernel
theorem dX8_isRhymeFor_5 : decode cX8_isRhymeFor 5 = .ok (.getfield 31, 3) := by decide +kernel
theorem dX8_isRhymeFor_8 : decode cX8_isRhymeFor 8 = .ok (.iload_n 1, 1) := by decide +kernel
theorem dX8_isRhymeFor_9 : decode cX8_isRhymeFor 9 = .ok (.putfield 94, 3) := by decide +kernel
theorem dX8_isRhymeFor_12 : decode cX8_isRhymeFor 12 = .ok (.aload_n 0, 1) := by decide +kernel
theorem dX8_isRhymeFor_13 : decode cX8_isRhymeFor 13 = .ok (.getfield 31, 3) := by decide +kernel
theorem dX8_isRhymeFor_16 : decode cX8_isRhymeFor 16 = .ok (.iload_n 3, 1) := by decide +kernel
theorem dX8_isRhymeFor_17 : decode cX8_isRhymeFor 17 = .ok (.iload 4, 2) := by decide +kernel
theorem dX8_isRhymeFor_19 : decode cX8_isRhymeFor 19 = .ok (.ior, 1) := by decide +kernel
theorem dX8_isRhymeFor_20 : decode cX8_isRhymeFor 20 = .ok (.putfield 190, 3) := by decide +kernel
theorem dX8_isRhymeFor_23 : decode cX8_isRhymeFor 23 = .ok (.aload_n 0, 1) := by decide +kernel
theorem dX8_isRhymeFor_24 : decode cX8_isRhymeFor 24 = .ok (.getfield 31, 3) := by decide +kernel
theorem dX8_isRhymeFor_27 : decode cX8_isRhymeFor 27 = .ok (.iload_n 2, 1) := by decide +kernel
theorem dX8_isRhymeFor_28 : decode cX8_isRhymeFor 28 = .ok (.invokevirtual 246, 3) := by decide +kernel
theorem dX8_isRhymeFor_31 : decode cX8_isRhymeFor 31 = .ok (.aload_n 0, 1) := by decide +kernel
theorem dX8_isRhymeFor_32 : decode cX8_isRhymeFor 32 = .ok (.getfield 31, 3) := by decide +kernel
theorem dX8_isRhymeFor_35 : decode cX8_isRhymeFor 35 = .ok (.iconst 2, 1) := by decide +kernel
theorem dX8_isRhymeFor_36 : decode cX8_isRhymeFor 36 = .ok (.invokevirtual 256, 3) := by decide +kernel
theorem dX8_isRhymeFor_39 : decode cX8_isRhymeFor 39 = .ok (.istore 5, 2) := by decide +kernel
theorem dX8_isRhymeFor_41 : decode cX8_isRhymeFor 41 = .ok (.iload 5, 2) := by decide +kernel
theorem dX8_isRhymeFor_43 : decode cX8_isRhymeFor 43 = .ok (.iload_n 3, 1) := by decide +kernel
theorem dX8_isRhymeFor_44 : decode cX8_isRhymeFor 44 = .ok (.iand, 1) := by decide +kernel
theorem dX8_isRhymeFor_45 : decode cX8_isRhymeFor 45 = .ok (.iload_n 3, 1) := by decide +kernel
theorem dX8_isRhymeFor_46 : decode cX8_isRhymeFor 46 = .ok (.if_icmp .ne 15, 3) := by decide +kernel
theorem dX8_isRhymeFor_49 : decode cX8_isRhymeFor 49 = .ok (.iload 5, 2) := by decide +kernel
theorem dX8_isRhymeFor_51 : decode cX8_isRhymeFor 51 = .ok (.iload 4, 2) := by decide +kernel
theorem dX8_isRhymeFor_53 : decode cX8_isRhymeFor 53 = .ok (.iand, 1) := by decide +kernel
theorem dX8_isRhymeFor_54 : decode cX8_isRhymeFor 54 = .ok (.ifCond .ne 7, 3) := by decide +kernel
theorem dX8_isRhymeFor_57 : decode cX8_isRhymeFor 57 = .ok (.iconst 1, 1) := by decide +kernel
theorem dX8_isRhymeFor_58 : decode cX8_isRhymeFor 58 = .ok (.goto 4, 3) := by decide +kernel
theorem dX8_isRhymeFor_61 : decode cX8_isRhymeFor 61 = .ok (.iconst 0, 1) := by decide +kernel
theorem dX8_isRhymeFor_62 : decode cX8_isRhymeFor 62 = .ok (.ireturn, 1) := by decide +kernel
theorem dX8_areNorthIfJustTheyGo_0 : decode cX8_areNorthIfJustTheyGo 0 = .ok (.aload_n 0, 1) := by decide +kernel
theorem dX8_areNorthIfJustTheyGo_1 : decode cX8_areNorthIfJustTheyGo 1 = .ok (.invokevirtual 243, 3) := by decide +kernel
theorem dX8_areNorthIfJustTheyGo_4 : decode cX8_areNorthIfJustTheyGo 4 = .ok (.aload_n 0, 1) := by decide +kernel
theorem dX8_areNorthIfJustTheyGo_5 : decode cX8_areNorthIfJustTheyGo 5 = .ok (.getfield 31, 3) := by decide +kernel
theorem dX8_areNorthIfJustTheyGo_8 : decode cX8_areNorthIfJustTheyGo 8 = .ok (.iload_n 1, 1) := by decide +kernel
theorem dX8_areNorthIfJustTheyGo_9 : decode cX8_areNorthIfJustTheyGo 9 = .ok (.putfield 190, 3) := by decide +kernel
theorem dX8_areNorthIfJustTheyGo_12 : decode cX8_areNorthIfJustTheyGo 12 = .ok (.aload_n 0, 1) := by decide +kernel
theorem dX8_areNorthIfJustTheyGo_13 : decode cX8_areNorthIfJustTheyGo 13 = .ok (.getfield 31, 3) := by decide +kernel
theorem dX8_areNorthIfJustTheyGo_16 : decode cX8_areNorthIfJustTheyGo 16 = .ok (.iload_n 2, 1) := by decide +kernel
theorem dX8_areNorthIfJustTheyGo_17 : decode cX8_areNorthIfJustTheyGo 17 = .ok (.invokevirtual 246, 3) := by decide +kernel
theorem dX8_areNorthIfJustTheyGo_20 : decode cX8_areNorthIfJustTheyGo 20 = .ok (.aload_n 0, 1) := by decide +kernel
theorem dX8_areNorthIfJustTheyGo_21 : decode cX8_areNorthIfJustTheyGo 21 = .ok (.getfield 31, 3) := by decide +kernel
theorem dX8_areNorthIfJustTheyGo_24 : decode cX8_areNorthIfJustTheyGo 24 = .ok (.iconst 2, 1) := by decide +kernel
theorem dX8_areNorthIfJustTheyGo_25 : decode cX8_areNorthIfJustTheyGo 25 = .ok (.invokevirtual 256, 3) := by decide +kernel
theorem dX8_areNorthIfJustTheyGo_28 : decode cX8_areNorthIfJustTheyGo 28 = .ok (.iload_n 1, 1) := by decide +kernel
theorem dX8_areNorthIfJustTheyGo_29 : decode cX8_areNorthIfJustTheyGo 29 = .ok (.iand, 1) := by decide +kernel
theorem dX8_areNorthIfJustTheyGo_30 : decode cX8_areNorthIfJustTheyGo 30 = .ok (.iload_n 1, 1) := by decide +kernel
theorem dX8_areNorthIfJustTheyGo_31 : decode cX8_areNorthIfJustTheyGo 31 = .ok (.if_icmp .ne 7, 3) := by decide +kernel
theorem dX8_areNorthIfJustTheyGo_34 : decode cX8_areNorthIfJustTheyGo 34 = .ok (.iconst 1, 1) := by decide +kernel
theorem dX8_areNorthIfJustTheyGo_35 : decode cX8_areNorthIfJustTheyGo 35 = .ok (.goto 4, 3) := by decide +kernel
theorem dX8_areNorthIfJustTheyGo_38 : decode cX8_areNorthIfJustTheyGo 38 = .ok (.iconst 0, 1) := by decide +kernel
theorem dX8_areNorthIfJustTheyGo_39 : decode cX8_areNorthIfJustTheyGo 39 = .ok (.ireturn, 1) := by decide +kernel
theorem dX8_wearsAsToldIfJustHeGoes_0 : decode cX8_wearsAsToldIfJustHeGoes 0 = .ok (.aload_n 0, 1) := by decide +kernel
theorem dX8_wearsAsToldIfJustHeGoes_1 : decode cX8_wearsAsToldIfJustHeGoes 1 = .ok (.invokevirtual 243, 3) := by decide +kernel
theorem dX8_wearsAsToldIfJustHeGoes_4 : decode cX8_wearsAsToldIfJustHeGoes 4 = .ok (.aload_n 0, 1) := by decide +kernel
theorem dX8_wearsAsToldIfJustHeGoes_5 : decode cX8_wearsAsToldIfJustHeGoes 5 = .ok (.getfield 31, 3) := by decide +kernel
theorem dX8_wearsAsToldIfJustHeGoes_8 : decode cX8_wearsAsToldIfJustHeGoes 8 = .ok (.iconst 1, 1) := by decide +kernel
theorem dX8_wearsAsToldIfJustHeGoes_9 : decode cX8_wearsAsToldIfJustHeGoes 9 = .ok (.iload_n 1, 1) := by decide +kernel
theorem dX8_wearsAsToldIfJustHeGoes_10 : decode cX8_wearsAsToldIfJustHeGoes 10 = .ok (.ishl, 1) := by decide +kernel
theorem dX8_wearsAsToldIfJustHeGoes_11 : decode cX8_wearsAsToldIfJustHeGoes 11 = .ok (.putfield 190, 3) := by decide +kernel
theorem dX8_wearsAsToldIfJustHeGoes_14 : decode cX8_wearsAsToldIfJustHeGoes 14 = .ok (.aload_n 0, 1) := by decide +kernel
theorem dX8_wearsAsToldIfJustHeGoes_15 : decode cX8_wearsAsToldIfJustHeGoes 15 = .ok (.getfield 31, 3) := by decide +kernel
theorem dX8_wearsAsToldIfJustHeGoes_18 : decode cX8_wearsAsToldIfJustHeGoes 18 = .ok (.iload_n 2, 1) := by decide +kernel
theorem dX8_wearsAsToldIfJustHeGoes_19 : decode cX8_wearsAsToldIfJustHeGoes 19 = .ok (.invokevirtual 246, 3) := by decide +kernel
theorem dX8_wearsAsToldIfJustHeGoes_22 : decode cX8_wearsAsToldIfJustHeGoes 22 = .ok (.iconst 0, 1) := by decide +kernel
theorem dX8_wearsAsToldIfJustHeGoes_23 : decode cX8_wearsAsToldIfJustHeGoes 23 = .ok (.istore 4, 2) := by decide +kernel
theorem dX8_wearsAsToldIfJustHeGoes_25 : decode cX8_wearsAsToldIfJustHeGoes 25 = .ok (.iload 4, 2) := by decide +kernel
theorem dX8_wearsAsToldIfJustHeGoes_27 : decode cX8_wearsAsToldIfJustHeGoes 27 = .ok (.aload_n 0, 1) := by decide +kernel
theorem dX8_wearsAsToldIfJustHeGoes_28 : decode cX8_wearsAsToldIfJustHeGoes 28 = .ok (.getfield 31, 3) := by decide +kernel
theorem dX8_wearsAsToldIfJustHeGoes_31 : decode cX8_wearsAsToldIfJustHeGoes 31 = .ok (.getfield 80, 3) := by decide +kernel
theorem dX8_wearsAsToldIfJustHeGoes_34 : decode cX8_wearsAsToldIfJustHeGoes 34 = .ok (.if_icmp .ge 31, 3) := by decide +kernel
theorem dX8_wearsAsToldIfJustHeGoes_37 : decode cX8_wearsAsToldIfJustHeGoes 37 = .ok (.aload_n 0, 1) := by decide +kernel
theorem dX8_wearsAsToldIfJustHeGoes_38 : decode cX8_wearsAsToldIfJustHeGoes 38 = .ok (.getfield 31, 3) := by decide +kernel
theorem dX8_wearsAsToldIfJustHeGoes_41 : decode cX8_wearsAsToldIfJustHeGoes 41 = .ok (.getfield 193, 3) := by decide +kernel
theorem dX8_wearsAsToldIfJustHeGoes_44 : decode cX8_wearsAsToldIfJustHeGoes 44 = .ok (.iload 4, 2) := by decide +kernel
theorem dX8_wearsAsToldIfJustHeGoes_46 : decode cX8_wearsAsToldIfJustHeGoes 46 = .ok (.iaload, 1) := by decide +kernel
theorem dX8_wearsAsToldIfJustHeGoes_47 : decode cX8_wearsAsToldIfJustHeGoes 47 = .ok (.aload_n 3, 1) := by decide +kernel
theorem dX8_wearsAsToldIfJustHeGoes_48 : decode cX8_wearsAsToldIfJustHeGoes 48 = .ok (.getfield 320, 3) := by decide +kernel
theorem dX8_wearsAsToldIfJustHeGoes_51 : decode cX8_wearsAsToldIfJustHeGoes 51 = .ok (.iload 4, 2) := by decide +kernel
theorem dX8_wearsAsToldIfJustHeGoes_53 : decode cX8_wearsAsToldIfJustHeGoes 53 = .ok (.iaload, 1) := by decide +kernel
theorem dX8_wearsAsToldIfJustHeGoes_54 : decode cX8_wearsAsToldIfJustHeGoes 54 = .ok (.if_icmp .eq 5, 3) := by decide +kernel
theorem dX8_wearsAsToldIfJustHeGoes_57 : decode cX8_wearsAsToldIfJustHeGoes 57 = .ok (.iconst 0, 1) := by decide +kernel
theorem dX8_wearsAsToldIfJustHeGoes_58 : decode cX8_wearsAsToldIfJustHeGoes 58 = .ok (.ireturn, 1) := by decide +kernel
theorem dX8_wearsAsToldIfJustHeGoes_59 : decode cX8_wearsAsToldIfJustHeGoes 59 = .ok (.iinc 4 1, 3) := by decide +kernel
theorem dX8_wearsAsToldIfJustHeGoes_62 : decode cX8_wearsAsToldIfJustHeGoes 62 = .ok (.goto (-37), 3) := by decide +kernel
theorem dX8_wearsAsToldIfJustHeGoes_65 : decode cX8_wearsAsToldIfJustHeGoes 65 = .ok (.iconst 1, 1) := by decide +kernel
theorem dX8_wearsAsToldIfJustHeGoes_66 : decode cX8_wearsAsToldIfJustHeGoes 66 = .ok (.ireturn, 1) := by decide +kernel
theorem dX8_isNorthFromPlace_0 : decode cX8_isNorthFromPlace 0 = .ok (.aload_n 0, 1) := by decide +kernel
theorem dX8_isNorthFromPlace_1 : decode cX8_isNorthFromPlace 1 = .ok (.invokevirtual 243, 3) := by decide +kernel
theorem dX8_isNorthFromPlace_4 : decode cX8_isNorthFromPlace 4 = .ok (.aload_n 0, 1) := by decide +kernel
theorem dX8_isNorthFromPlace_5 : decode cX8_isNorthFromPlace 5 = .ok (.getfield 31, 3) := by decide +kernel
theorem dX8_isNorthFromPlace_8 : decode cX8_isNorthFromPlace 8 = .ok (.dup, 1) := by decide +kernel
theorem dX8_isNorthFromPlace_9 : decode cX8_isNorthFromPlace 9 = .ok (.getfield 227, 3) := by decide +kernel
theorem dX8_isNorthFromPlace_12 : decode cX8_isNorthFromPlace 12 = .ok (.iload_n 3, 1) := by decide +kernel
theorem dX8_isNorthFromPlace_13 : decode cX8_isNorthFromPlace 13 = .ok (.aload_n 0, 1) := by decide +kernel
theorem dX8_isNorthFromPlace_14 : decode cX8_isNorthFromPlace 14 = .ok (.getfield 31, 3) := by decide +kernel
theorem dX8_isNorthFromPlace_17 : decode cX8_isNorthFromPlace 17 = .ok (.invokevirtual 351, 3) := by decide +kernel
theorem dX8_isNorthFromPlace_20 : decode cX8_isNorthFromPlace 20 = .ok (.isub, 1) := by decide +kernel
theorem dX8_isNorthFromPlace_21 : decode cX8_isNorthFromPlace 21 = .ok (.iadd, 1) := by decide +kernel
theorem dX8_isNorthFromPlace_22 : decode cX8_isNorthFromPlace 22 = .ok (.putfield 227, 3) := by decide +kernel
theorem dX8_isNorthFromPlace_25 : decode cX8_isNorthFromPlace 25 = .ok (.aload_n 0, 1) := by decide +kernel
theorem dX8_isNorthFromPlace_26 : decode cX8_isNorthFromPlace 26 = .ok (.getfield 31, 3) := by decide +kernel
theorem dX8_isNorthFromPlace_29 : decode cX8_isNorthFromPlace 29 = .ok (.dup, 1) := by decide +kernel
theorem dX8_isNorthFromPlace_30 : decode cX8_isNorthFromPlace 30 = .ok (.getfield 190, 3) := by decide +kernel
theorem dX8_isNorthFromPlace_33 : decode cX8_isNorthFromPlace 33 = .ok (.iconst 1, 1) := by decide +kernel
theorem dX8_isNorthFromPlace_34 : decode cX8_isNorthFromPlace 34 = .ok (.iload_n 1, 1) := by decide +kernel
theorem dX8_isNorthFromPlace_35 : decode cX8_isNorthFromPlace 35 = .ok (.ishl, 1) := by decide +kernel
theorem dX8_isNorthFromPlace_36 : decode cX8_isNorthFromPlace 36 = .ok (.ior, 1) := by decide +kernel
theorem dX8_isNorthFromPlace_37 : decode cX8_isNorthFromPlace 37 = .ok (.putfield 190, 3) := by decide +kernel
theorem dX8_isNorthFromPlace_40 : decode cX8_isNorthFromPlace 40 = .ok (.aload_n 0, 1) := by decide +kernel
theorem dX8_isNorthFromPlace_41 : decode cX8_isNorthFromPlace 41 = .ok (.getfield 31, 3) := by decide +kernel
theorem dX8_isNorthFromPlace_44 : decode cX8_isNorthFromPlace 44 = .ok (.iload_n 2, 1) := by decide +kernel
theorem dX8_isNorthFromPlace_45 : decode cX8_isNorthFromPlace 45 = .ok (.invokevirtual 246, 3) := by decide +kernel
theorem dX8_isNorthFromPlace_48 : decode cX8_isNorthFromPlace 48 = .ok (.aload_n 0, 1) := by decide +kernel
theorem dX8_isNorthFromPlace_49 : decode cX8_isNorthFromPlace 49 = .ok (.getfield 31, 3) := by decide +kernel
theorem dX8_isNorthFromPlace_52 : decode cX8_isNorthFromPlace 52 = .ok (.getfield 139, 3) := by decide +kernel
theorem dX8_isNorthFromPlace_55 : decode cX8_isNorthFromPlace 55 = .ok (.iload_n 1, 1) := by decide +kernel
theorem dX8_isNorthFromPlace_56 : decode cX8_isNorthFromPlace 56 = .ok (.aaload, 1) := by decide +kernel
theorem dX8_isNorthFromPlace_57 : decode cX8_isNorthFromPlace 57 = .ok (.getfield 160, 3) := by decide +kernel
theorem dX8_isNorthFromPlace_60 : decode cX8_isNorthFromPlace 60 = .ok (.iconst 2, 1) := by decide +kernel
theorem dX8_isNorthFromPlace_61 : decode cX8_isNorthFromPlace 61 = .ok (.if_icmp .ne 7, 3) := by decide +kernel
theorem dX8_isNorthFromPlace_64 : decode cX8_isNorthFromPlace 64 = .ok (.iconst 1, 1) := by decide +kernel
theorem dX8_isNorthFromPlace_65 : decode cX8_isNorthFromPlace 65 = .ok (.goto 4, 3) := by decide +kernel
theorem dX8_isNorthFromPlace_68 : decode cX8_isNorthFromPlace 68 = .ok (.iconst 0, 1) := by decide +kernel
theorem dX8_isNorthFromPlace_69 : decode cX8_isNorthFromPlace 69 = .ok (.ireturn, 1) := by decide +kernel
theorem dX8_greatestShared_0 : decode cX8_greatestShared 0 = .ok (.iload_n 1, 1) := by decide +kernel
theorem dX8_greatestShared_1 : decode cX8_greatestShared 1 = .ok (.istore_n 2, 1) := by decide +kernel
theorem dX8_greatestShared_2 : decode cX8_greatestShared 2 = .ok (.iload_n 2, 1) := by decide +kernel
theorem dX8_greatestShared_3 : decode cX8_greatestShared 3 = .ok (.iconst 1, 1) := by decide +kernel
theorem dX8_greatestShared_4 : decode cX8_greatestShared 4 = .ok (.if_icmp .le 23, 3) := by decide +kernel
theorem dX8_greatestShared_7 : decode cX8_greatestShared 7 = .ok (.iload_n 0, 1) := by decide +kernel
theorem dX8_greatestShared_8 : decode cX8_greatestShared 8 = .ok (.iload_n 2, 1) := by decide +kernel
theorem dX8_greatestShared_9 : decode cX8_greatestShared 9 = .ok (.irem, 1) := by decide +kernel
theorem dX8_greatestShared_10 : decode cX8_greatestShared 10 = .ok (.ifCond .ne 11, 3) := by decide +kernel
theorem dX8_greatestShared_13 : decode cX8_greatestShared 13 = .ok (.iload_n 1, 1) := by decide +kernel
theorem dX8_greatestShared_14 : decode cX8_greatestShared 14 = .ok (.iload_n 2, 1) := by decide +kernel
theorem dX8_greatestShared_15 : decode cX8_greatestShared 15 = .ok (.irem, 1) := by decide +kernel
theorem dX8_greatestShared_16 : decode cX8_greatestShared 16 = .ok (.ifCond .ne 5, 3) := by decide +kernel
theorem dX8_greatestShared_19 : decode cX8_greatestShared 19 = .ok (.iload_n 2, 1) := by decide +kernel
theorem dX8_greatestShared_20 : decode cX8_greatestShared 20 = .ok (.ireturn, 1) := by decide +kernel
theorem dX8_greatestShared_21 : decode cX8_greatestShared 21 = .ok (.iinc 2 (-1), 3) := by decide +kernel
theorem dX8_greatestShared_24 : decode cX8_greatestShared 24 = .ok (.goto (-22), 3) := by decide +kernel
theorem dX8_greatestShared_27 : decode cX8_greatestShared 27 = .ok (.iconst 1, 1) := by decide +kernel
theorem dX8_greatestShared_28 : decode cX8_greatestShared 28 = .ok (.ireturn, 1) := by decide +kernel
theorem dX8_drawWhoGoes_0 : decode cX8_drawWhoGoes 0 = .ok (.aload_n 0, 1) := by decide +kernel
theorem dX8_drawWhoGoes_1 : decode cX8_drawWhoGoes 1 = .ok (.getfield 10, 3) := by decide +kernel
theorem dX8_drawWhoGoes_4 : decode cX8_drawWhoGoes 4 = .ok (.getfield 73, 3) := by decide +kernel
theorem dX8_drawWhoGoes_7 : decode cX8_drawWhoGoes 7 = .ok (.getfield 76, 3) := by decide +kernel
theorem dX8_drawWhoGoes_10 : decode cX8_drawWhoGoes 10 = .ok (.istore_n 1, 1) := by decide +kernel
theorem dX8_drawWhoGoes_11 : decode cX8_drawWhoGoes 11 = .ok (.iload_n 1, 1) := by decide +kernel
theorem dX8_drawWhoGoes_12 : decode cX8_drawWhoGoes 12 = .ok (.ifCond .le 54, 3) := by decide +kernel
theorem dX8_drawWhoGoes_15 : decode cX8_drawWhoGoes 15 = .ok (.aload_n 0, 1) := by decide +kernel
theorem dX8_drawWhoGoes_16 : decode cX8_drawWhoGoes 16 = .ok (.getfield 10, 3) := by decide +kernel
theorem dX8_drawWhoGoes_19 : decode cX8_drawWhoGoes 19 = .ok (.aload_n 0, 1) := by decide +kernel
theorem dX8_drawWhoGoes_20 : decode cX8_drawWhoGoes 20 = .ok (.getfield 10, 3) := by decide +kernel
theorem dX8_drawWhoGoes_23 : decode cX8_drawWhoGoes 23 = .ok (.getfield 294, 3) := by decide +kernel
theorem dX8_drawWhoGoes_26 : decode cX8_drawWhoGoes 26 = .ok (.ldc_w 354, 3) := by decide +kernel
theorem dX8_drawWhoGoes_29 : decode cX8_drawWhoGoes 29 = .ok (.imul, 1) := by decide +kernel
theorem dX8_drawWhoGoes_30 : decode cX8_drawWhoGoes 30 = .ok (.sipush 12345, 3) := by decide +kernel
theorem dX8_drawWhoGoes_33 : decode cX8_drawWhoGoes 33 = .ok (.iadd, 1) := by decide +kernel
theorem dX8_drawWhoGoes_34 : decode cX8_drawWhoGoes 34 = .ok (.putfield 294, 3) := by decide +kernel
theorem dX8_drawWhoGoes_37 : decode cX8_drawWhoGoes 37 = .ok (.aload_n 0, 1) := by decide +kernel
theorem dX8_drawWhoGoes_38 : decode cX8_drawWhoGoes 38 = .ok (.getfield 10, 3) := by decide +kernel
theorem dX8_drawWhoGoes_41 : decode cX8_drawWhoGoes 41 = .ok (.getfield 73, 3) := by decide +kernel
theorem dX8_drawWhoGoes_44 : decode cX8_drawWhoGoes 44 = .ok (.dup, 1) := by decide +kernel
theorem dX8_drawWhoGoes_45 : decode cX8_drawWhoGoes 45 = .ok (.getfield 190, 3) := by decide +kernel
theorem dX8_drawWhoGoes_48 : decode cX8_drawWhoGoes 48 = .ok (.iconst 1, 1) := by decide +kernel
theorem dX8_drawWhoGoes_49 : decode cX8_drawWhoGoes 49 = .ok (.aload_n 0, 1) := by decide +kernel
theorem dX8_drawWhoGoes_50 : decode cX8_drawWhoGoes 50 = .ok (.getfield 10, 3) := by decide +kernel
theorem dX8_drawWhoGoes_53 : decode cX8_drawWhoGoes 53 = .ok (.getfield 294, 3) := by decide +kernel
theorem dX8_drawWhoGoes_56 : decode cX8_drawWhoGoes 56 = .ok (.bipush 8, 2) := by decide +kernel
theorem dX8_drawWhoGoes_58 : decode cX8_drawWhoGoes 58 = .ok (.iushr, 1) := by decide +kernel
theorem dX8_drawWhoGoes_59 : decode cX8_drawWhoGoes 59 = .ok (.iload_n 1, 1) := by decide +kernel
theorem dX8_drawWhoGoes_60 : decode cX8_drawWhoGoes 60 = .ok (.irem, 1) := by decide +kernel
theorem dX8_drawWhoGoes_61 : decode cX8_drawWhoGoes 61 = .ok (.ishl, 1) := by decide +kernel
theorem dX8_drawWhoGoes_62 : decode cX8_drawWhoGoes 62 = .ok (.ixor, 1) := by decide +kernel
theorem dX8_drawWhoGoes_63 : decode cX8_drawWhoGoes 63 = .ok (.putfield 190, 3) := by decide +kernel
theorem dX8_drawWhoGoes_66 : decode cX8_drawWhoGoes 66 = .ok (.return_, 1) := by decide +kernel
