theorem dX1_init_0 : decode cX1_init 0 = .ok (.aload_n 0, 1) := by decide +kernel
theorem dX1_init_1 : decode cX1_init 1 = .ok (.invokespecial 3, 3) := by decide +kernel
theorem dX1_init_4 : decode cX1_init 4 = .ok (.return_, 1) := by decide +kernel
theorem dX1_copyFrom_0 : decode cX1_copyFrom 0 = .ok (.aload_n 0, 1) := by decide +kernel
theorem dX1_copyFrom_1 : decode cX1_copyFrom 1 = .ok (.aload_n 1, 1) := by decide +kernel
theorem dX1_copyFrom_2 : decode cX1_copyFrom 2 = .ok (.getfield 9, 3) := by decide +kernel
theorem dX1_copyFrom_5 : decode cX1_copyFrom 5 = .ok (.putfield 9, 3) := by decide +kernel
theorem dX1_copyFrom_8 : decode cX1_copyFrom 8 = .ok (.aload_n 0, 1) := by decide +kernel
theorem dX1_copyFrom_9 : decode cX1_copyFrom 9 = .ok (.aload_n 1, 1) := by decide +kernel
theorem dX1_copyFrom_10 : decode cX1_copyFrom 10 = .ok (.getfield 15, 3) := by decide +kernel
theorem dX1_copyFrom_13 : decode cX1_copyFrom 13 = .ok (.putfield 15, 3) := by decide +kernel
theorem dX1_copyFrom_16 : decode cX1_copyFrom 16 = .ok (.aload_n 0, 1) := by decide +kernel
theorem dX1_copyFrom_17 : decode cX1_copyFrom 17 = .ok (.aload_n 1, 1) := by decide +kernel
theorem dX1_copyFrom_18 : decode cX1_copyFrom 18 = .ok (.getfield 18, 3) := by decide +kernel
theorem dX1_copyFrom_21 : decode cX1_copyFrom 21 = .ok (.putfield 18, 3) := by decide +kernel
theorem dX1_copyFrom_24 : decode cX1_copyFrom 24 = .ok (.aload_n 0, 1) := by decide +kernel
theorem dX1_copyFrom_25 : decode cX1_copyFrom 25 = .ok (.aload_n 1, 1) := by decide +kernel
theorem dX1_copyFrom_26 : decode cX1_copyFrom 26 = .ok (.getfield 21, 3) := by decide +kernel
theorem dX1_copyFrom_29 : decode cX1_copyFrom 29 = .ok (.putfield 21, 3) := by decide +kernel
theorem dX1_copyFrom_32 : decode cX1_copyFrom 32 = .ok (.aload_n 0, 1) := by decide +kernel
theorem dX1_copyFrom_33 : decode cX1_copyFrom 33 = .ok (.aload_n 1, 1) := by decide +kernel
theorem dX1_copyFrom_34 : decode cX1_copyFrom 34 = .ok (.getfield 24, 3) := by decide +kernel
theorem dX1_copyFrom_37 : decode cX1_copyFrom 37 = .ok (.putfield 24, 3) := by decide +kernel
theorem dX1_copyFrom_40 : decode cX1_copyFrom 40 = .ok (.aload_n 0, 1) := by decide +kernel
theorem dX1_copyFrom_41 : decode cX1_copyFrom 41 = .ok (.aload_n 1, 1) := by decide +kernel
theorem dX1_copyFrom_42 : decode cX1_copyFrom 42 = .ok (.getfield 27, 3) := by decide +kernel
theorem dX1_copyFrom_45 : decode cX1_copyFrom 45 = .ok (.putfield 27, 3) := by decide +kernel
theorem dX1_copyFrom_48 : decode cX1_copyFrom 48 = .ok (.aload_n 0, 1) := by decide +kernel
theorem dX1_copyFrom_49 : decode cX1_copyFrom 49 = .ok (.aload_n 1, 1) := by decide +kernel
theorem dX1_copyFrom_50 : decode cX1_copyFrom 50 = .ok (.getfield 30, 3) := by decide +kernel
theorem dX1_copyFrom_53 : decode cX1_copyFrom 53 = .ok (.putfield 30, 3) := by decide +kernel
theorem dX1_copyFrom_56 : decode cX1_copyFrom 56 = .ok (.return_, 1) := by decide +kernel
theorem dX1_takeKind_0 : decode cX1_takeKind 0 = .ok (.aload_n 0, 1) := by decide +kernel
theorem dX1_takeKind_1 : decode cX1_takeKind 1 = .ok (.iload_n 1, 1) := by decide +kernel
theorem dX1_takeKind_2 : decode cX1_takeKind 2 = .ok (.bipush 10, 2) := by decide +kernel
theorem dX1_takeKind_4 : decode cX1_takeKind 4 = .ok (.idiv, 1) := by decide +kernel
theorem dX1_takeKind_5 : decode cX1_takeKind 5 = .ok (.putfield 9, 3) := by decide +kernel
theorem dX1_takeKind_8 : decode cX1_takeKind 8 = .ok (.aload_n 0, 1) := by decide +kernel
theorem dX1_takeKind_9 : decode cX1_takeKind 9 = .ok (.iload_n 1, 1) := by decide +kernel
theorem dX1_takeKind_10 : decode cX1_takeKind 10 = .ok (.bipush 10, 2) := by decide +kernel
theorem dX1_takeKind_12 : decode cX1_takeKind 12 = .ok (.irem, 1) := by decide +kernel
theorem dX1_takeKind_13 : decode cX1_takeKind 13 = .ok (.putfield 15, 3) := by decide +kernel
theorem dX1_takeKind_16 : decode cX1_takeKind 16 = .ok (.return_, 1) := by decide +kernel
theorem dX1_isOfKind_0 : decode cX1_isOfKind 0 = .ok (.aload_n 0, 1) := by decide +kernel
theorem dX1_isOfKind_1 : decode cX1_isOfKind 1 = .ok (.getfield 9, 3) := by decide +kernel
theorem dX1_isOfKind_4 : decode cX1_isOfKind 4 = .ok (.istore_n 2, 1) := by decide +kernel
theorem dX1_isOfKind_5 : decode cX1_isOfKind 5 = .ok (.iconst 0, 1) := by decide +kernel
theorem dX1_isOfKind_6 : decode cX1_isOfKind 6 = .ok (.istore_n 3, 1) := by decide +kernel
theorem dX1_isOfKind_7 : decode cX1_isOfKind 7 = .ok (.iload_n 3, 1) := by decide +kernel
theorem dX1_isOfKind_8 : decode cX1_isOfKind 8 = .ok (.getstatic 33, 3) := by decide +kernel
theorem dX1_isOfKind_11 : decode cX1_isOfKind 11 = .ok (.arraylength, 1) := by decide +kernel
theorem dX1_isOfKind_12 : decode cX1_isOfKind 12 = .ok (.if_icmp .ge 27, 3) := by decide +kernel
theorem dX1_isOfKind_15 : decode cX1_isOfKind 15 = .ok (.iload_n 2, 1) := by decide +kernel
theorem dX1_isOfKind_16 : decode cX1_isOfKind 16 = .ok (.iconst (-1), 1) := by decide +kernel
theorem dX1_isOfKind_17 : decode cX1_isOfKind 17 = .ok (.if_icmp .eq 22, 3) := by decide +kernel
theorem dX1_isOfKind_20 : decode cX1_isOfKind 20 = .ok (.iload_n 2, 1) := by decide +kernel
theorem dX1_isOfKind_21 : decode cX1_isOfKind 21 = .ok (.iload_n 1, 1) := by decide +kernel
theorem dX1_isOfKind_22 : decode cX1_isOfKind 22 = .ok (.if_icmp .ne 5, 3) := by decide +kernel
theorem dX1_isOfKind_25 : decode cX1_isOfKind 25 = .ok (.iconst 1, 1) := by decide +kernel
theorem dX1_isOfKind_26 : decode cX1_isOfKind 26 = .ok (.ireturn, 1) := by decide +kernel
theorem dX1_isOfKind_27 : decode cX1_isOfKind 27 = .ok (.getstatic 33, 3) := by decide +kernel
theorem dX1_isOfKind_30 : decode cX1_isOfKind 30 = .ok (.iload_n 2, 1) := by decide +kernel
theorem dX1_isOfKind_31 : decode cX1_isOfKind 31 = .ok (.iaload, 1) := by decide +kernel
theorem dX1_isOfKind_32 : decode cX1_isOfKind 32 = .ok (.istore_n 2, 1) := by decide +kernel
theorem dX1_isOfKind_33 : decode cX1_isOfKind 33 = .ok (.iinc 3 1, 3) := by decide +kernel
theorem dX1_isOfKind_36 : decode cX1_isOfKind 36 = .ok (.goto (-29), 3) := by decide +kernel
theorem dX1_isOfKind_39 : decode cX1_isOfKind 39 = .ok (.iconst 0, 1) := by decide +kernel
theorem dX1_isOfKind_40 : decode cX1_isOfKind 40 = .ok (.ireturn, 1) := by decide +kernel
theorem dX1_exchange_0 : decode cX1_exchange 0 = .ok (.iload_n 1, 1) := by decide +kernel
theorem dX1_exchange_1 : decode cX1_exchange 1 = .ok (.tableswitch 63 0 2 #[27, 39, 51], 27) := by decide +kernel
theorem dX1_exchange_28 : decode cX1_exchange 28 = .ok (.aload_n 0, 1) := by decide +kernel
theorem dX1_exchange_29 : decode cX1_exchange 29 = .ok (.getfield 18, 3) := by decide +kernel
theorem dX1_exchange_32 : decode cX1_exchange 32 = .ok (.istore_n 3, 1) := by decide +kernel
theorem dX1_exchange_33 : decode cX1_exchange 33 = .ok (.aload_n 0, 1) := by decide +kernel
theorem dX1_exchange_34 : decode cX1_exchange 34 = .ok (.iload_n 2, 1) := by decide +kernel
theorem dX1_exchange_35 : decode cX1_exchange 35 = .ok (.putfield 18, 3) := by decide +kernel
theorem dX1_exchange_38 : decode cX1_exchange 38 = .ok (.iload_n 3, 1) := by decide +kernel
theorem dX1_exchange_39 : decode cX1_exchange 39 = .ok (.ireturn, 1) := by decide +kernel
theorem dX1_exchange_40 : decode cX1_exchange 40 = .ok (.aload_n 0, 1) := by decide +kernel
theorem dX1_exchange_41 : decode cX1_exchange 41 = .ok (.getfield 21, 3) := by decide +kernel
theorem dX1_exchange_44 : decode cX1_exchange 44 = .ok (.istore_n 3, 1) := by decide +kernel
theorem dX1_exchange_45 : decode cX1_exchange 45 = .ok (.aload_n 0, 1) := by decide +kernel
theorem dX1_exchange_46 : decode cX1_exchange 46 = .ok (.iload_n 2, 1) := by decide +kernel
theorem dX1_exchange_47 : decode cX1_exchange 47 = .ok (.putfield 21, 3) := by decide +kernel
theorem dX1_exchange_50 : decode cX1_exchange 50 = .ok (.iload_n 3, 1) := by decide +kernel
theorem dX1_exchange_51 : decode cX1_exchange 51 = .ok (.ireturn, 1) := by decide +kernel
theorem dX1_exchange_52 : decode cX1_exchange 52 = .ok (.aload_n 0, 1) := by decide +kernel
theorem dX1_exchange_53 : decode cX1_exchange 53 = .ok (.getfield 24, 3) := by decide +kernel
theorem dX1_exchange_56 : decode cX1_exchange 56 = .ok (.istore_n 3, 1) := by decide +kernel
theorem dX1_exchange_57 : decode cX1_exchange 57 = .ok (.aload_n 0, 1) := by decide +kernel
theorem dX1_exchange_58 : decode cX1_exchange 58 = .ok (.iload_n 2, 1) := by decide +kernel
theorem dX1_exchange_59 : decode cX1_exchange 59 = .ok (.putfield 24, 3) := by decide +kernel
theorem dX1_exchange_62 : decode cX1_exchange 62 = .ok (.iload_n 3, 1) := by decide +kernel
theorem dX1_exchange_63 : decode cX1_exchange 63 = .ok (.ireturn, 1) := by decide +kernel
theorem dX1_exchange_64 : decode cX1_exchange 64 = .ok (.aload_n 0, 1) := by decide +kernel
theorem dX1_exchange_65 : decode cX1_exchange 65 = .ok (.getfield 27, 3) := by decide +kernel
theorem dX1_exchange_68 : decode cX1_exchange 68 = .ok (.istore_n 3, 1) := by decide +kernel
theorem dX1_exchange_69 : decode cX1_exchange 69 = .ok (.aload_n 0, 1) := by decide +kernel
theorem dX1_exchange_70 : decode cX1_exchange 70 = .ok (.iload_n 2, 1) := by decide +kernel
theorem dX1_exchange_71 : decode cX1_exchange 71 = .ok (.putfield 27, 3) := by decide +kernel
theorem dX1_exchange_74 : decode cX1_exchange 74 = .ok (.aload_n 0, 1) := by decide +kernel
theorem dX1_exchange_75 : decode cX1_exchange 75 = .ok (.iconst 0, 1) := by decide +kernel
theorem dX1_exchange_76 : decode cX1_exchange 76 = .ok (.putfield 30, 3) := by decide +kernel
theorem dX1_exchange_79 : decode cX1_exchange 79 = .ok (.iload_n 3, 1) := by decide +kernel
theorem dX1_exchange_80 : decode cX1_exchange 80 = .ok (.ireturn, 1) := by decide +kernel
theorem dX1_needsWith_0 : decode cX1_needsWith 0 = .ok (.aload_n 0, 1) := by decide +kernel
theorem dX1_needsWith_1 : decode cX1_needsWith 1 = .ok (.getfield 9, 3) := by decide +kernel
theorem dX1_needsWith_4 : decode cX1_needsWith 4 = .ok (.tableswitch 82 1 6 #[40, 48, 57, 59, 69, 80], 40) := by decide +kernel
theorem dX1_needsWith_44 : decode cX1_needsWith 44 = .ok (.iload_n 1, 1) := by decide +kernel
theorem dX1_needsWith_45 : decode cX1_needsWith 45 = .ok (.iconst 1, 1) := by decide +kernel
theorem dX1_needsWith_46 : decode cX1_needsWith 46 = .ok (.isub, 1) := by decide +kernel
theorem dX1_needsWith_47 : decode cX1_needsWith 47 = .ok (.iconst 1, 1) := by decide +kernel
theorem dX1_needsWith_48 : decode cX1_needsWith 48 = .ok (.invokestatic 37, 3) := by decide +kernel
theorem dX1_needsWith_51 : decode cX1_needsWith 51 = .ok (.ireturn, 1) := by decide +kernel
theorem dX1_needsWith_52 : decode cX1_needsWith 52 = .ok (.iload_n 1, 1) := by decide +kernel
theorem dX1_needsWith_53 : decode cX1_needsWith 53 = .ok (.aload_n 0, 1) := by decide +kernel
theorem dX1_needsWith_54 : decode cX1_needsWith 54 = .ok (.getfield 15, 3) := by decide +kernel
theorem dX1_needsWith_57 : decode cX1_needsWith 57 = .ok (.iconst 3, 1) := by decide +kernel
theorem dX1_needsWith_58 : decode cX1_needsWith 58 = .ok (.irem, 1) := by decide +kernel
theorem dX1_needsWith_59 : decode cX1_needsWith 59 = .ok (.iadd, 1) := by decide +kernel
theorem dX1_needsWith_60 : decode cX1_needsWith 60 = .ok (.ireturn, 1) := by decide +kernel
theorem dX1_needsWith_61 : decode cX1_needsWith 61 = .ok (.iconst 1, 1) := by decide +kernel
theorem dX1_needsWith_62 : decode cX1_needsWith 62 = .ok (.ireturn, 1) := by decide +kernel
theorem dX1_needsWith_63 : decode cX1_needsWith 63 = .ok (.iload_n 1, 1) := by decide +kernel
theorem dX1_needsWith_64 : decode cX1_needsWith 64 = .ok (.iconst 1, 1) := by decide +kernel
theorem dX1_needsWith_65 : decode cX1_needsWith 65 = .ok (.isub, 1) := by decide +kernel
theorem dX1_needsWith_66 : decode cX1_needsWith 66 = .ok (.iconst 1, 1) := by decide +kernel
theorem dX1_needsWith_67 : decode cX1_needsWith 67 = .ok (.invokestatic 37, 3) := by decide +kernel
theorem dX1_needsWith_70 : decode cX1_needsWith 70 = .ok (.iconst 2, 1) := by decide +kernel
theorem dX1_needsWith_71 : decode cX1_needsWith 71 = .ok (.iadd, 1) := by decide +kernel
theorem dX1_needsWith_72 : decode cX1_needsWith 72 = .ok (.ireturn, 1) := by decide +kernel
theorem dX1_needsWith_73 : decode cX1_needsWith 73 = .ok (.iconst 2, 1) := by decide +kernel
theorem dX1_needsWith_74 : decode cX1_needsWith 74 = .ok (.iload_n 1, 1) := by decide +kernel
theorem dX1_needsWith_75 : decode cX1_needsWith 75 = .ok (.aload_n 0, 1) := by decide +kernel
theorem dX1_needsWith_76 : decode cX1_needsWith 76 = .ok (.getfield 15, 3) := by decide +kernel
theorem dX1_needsWith_79 : decode cX1_needsWith 79 = .ok (.iconst 3, 1) := by decide +kernel
theorem dX1_needsWith_80 : decode cX1_needsWith 80 = .ok (.irem, 1) := by decide +kernel
theorem dX1_needsWith_81 : decode cX1_needsWith 81 = .ok (.iadd, 1) := by decide +kernel
theorem dX1_needsWith_82 : decode cX1_needsWith 82 = .ok (.imul, 1) := by decide +kernel
theorem dX1_needsWith_83 : decode cX1_needsWith 83 = .ok (.ireturn, 1) := by decide +kernel
theorem dX1_needsWith_84 : decode cX1_needsWith 84 = .ok (.iconst 3, 1) := by decide +kernel
theorem dX1_needsWith_85 : decode cX1_needsWith 85 = .ok (.ireturn, 1) := by decide +kernel
theorem dX1_needsWith_86 : decode cX1_needsWith 86 = .ok (.iload_n 1, 1) := by decide +kernel
theorem dX1_needsWith_87 : decode cX1_needsWith 87 = .ok (.ireturn, 1) := by decide +kernel
theorem dX1_wearsByJump_0 : decode cX1_wearsByJump 0 = .ok (.aload_n 0, 1) := by decide +kernel
theorem dX1_wearsByJump_1 : decode cX1_wearsByJump 1 = .ok (.getfield 9, 3) := by decide +kernel
theorem dX1_wearsByJump_4 : decode cX1_wearsByJump 4 = .ok (.tableswitch 59 1 6 #[40, 42, 59, 52, 42, 57], 40) := by decide +kernel
theorem dX1_wearsByJump_44 : decode cX1_wearsByJump 44 = .ok (.iconst 0, 1) := by decide +kernel
theorem dX1_wearsByJump_45 : decode cX1_wearsByJump 45 = .ok (.ireturn, 1) := by decide +kernel
theorem dX1_wearsByJump_46 : decode cX1_wearsByJump 46 = .ok (.iconst 1, 1) := by decide +kernel
theorem dX1_wearsByJump_47 : decode cX1_wearsByJump 47 = .ok (.aload_n 0, 1) := by decide +kernel
theorem dX1_wearsByJump_48 : decode cX1_wearsByJump 48 = .ok (.getfield 21, 3) := by decide +kernel
theorem dX1_wearsByJump_51 : decode cX1_wearsByJump 51 = .ok (.bipush 10, 2) := by decide +kernel
theorem dX1_wearsByJump_53 : decode cX1_wearsByJump 53 = .ok (.idiv, 1) := by decide +kernel
theorem dX1_wearsByJump_54 : decode cX1_wearsByJump 54 = .ok (.iadd, 1) := by decide +kernel
theorem dX1_wearsByJump_55 : decode cX1_wearsByJump 55 = .ok (.ireturn, 1) := by decide +kernel
theorem dX1_wearsByJump_56 : decode cX1_wearsByJump 56 = .ok (.aload_n 0, 1) := by decide +kernel
theorem dX1_wearsByJump_57 : decode cX1_wearsByJump 57 = .ok (.getfield 15, 3) := by decide +kernel
theorem dX1_wearsByJump_60 : decode cX1_wearsByJump 60 = .ok (.ireturn, 1) := by decide +kernel
theorem dX1_wearsByJump_61 : decode cX1_wearsByJump 61 = .ok (.iconst 2, 1) := by decide +kernel
theorem dX1_wearsByJump_62 : decode cX1_wearsByJump 62 = .ok (.ireturn, 1) := by decide +kernel
theorem dX1_wearsByJump_63 : decode cX1_wearsByJump 63 = .ok (.iconst 1, 1) := by decide +kernel
theorem dX1_wearsByJump_64 : decode cX1_wearsByJump 64 = .ok (.ireturn, 1) := by decide +kernel
