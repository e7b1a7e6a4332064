theorem dd_C_gathered_0 : decode cc_C_gathered 0 = .ok (.aload_n 0, 1) := by decide +kernel
theorem dd_C_gathered_1 : decode cc_C_gathered 1 = .ok (.iload_n 1, 1) := by decide +kernel
theorem dd_C_gathered_2 : decode cc_C_gathered 2 = .ok (.sipush 255, 3) := by decide +kernel
theorem dd_C_gathered_5 : decode cc_C_gathered 5 = .ok (.iand, 1) := by decide +kernel
theorem dd_C_gathered_6 : decode cc_C_gathered 6 = .ok (.iaload, 1) := by decide +kernel
theorem dd_C_gathered_7 : decode cc_C_gathered 7 = .ok (.aload_n 0, 1) := by decide +kernel
theorem dd_C_gathered_8 : decode cc_C_gathered 8 = .ok (.iload_n 2, 1) := by decide +kernel
theorem dd_C_gathered_9 : decode cc_C_gathered 9 = .ok (.bipush 8, 2) := by decide +kernel
theorem dd_C_gathered_11 : decode cc_C_gathered 11 = .ok (.iushr, 1) := by decide +kernel
theorem dd_C_gathered_12 : decode cc_C_gathered 12 = .ok (.sipush 255, 3) := by decide +kernel
theorem dd_C_gathered_15 : decode cc_C_gathered 15 = .ok (.iand, 1) := by decide +kernel
theorem dd_C_gathered_16 : decode cc_C_gathered 16 = .ok (.iaload, 1) := by decide +kernel
theorem dd_C_gathered_17 : decode cc_C_gathered 17 = .ok (.bipush 8, 2) := by decide +kernel
theorem dd_C_gathered_19 : decode cc_C_gathered 19 = .ok (.ishl, 1) := by decide +kernel
theorem dd_C_gathered_20 : decode cc_C_gathered 20 = .ok (.ior, 1) := by decide +kernel
theorem dd_C_gathered_21 : decode cc_C_gathered 21 = .ok (.aload_n 0, 1) := by decide +kernel
theorem dd_C_gathered_22 : decode cc_C_gathered 22 = .ok (.iload_n 3, 1) := by decide +kernel
theorem dd_C_gathered_23 : decode cc_C_gathered 23 = .ok (.bipush 16, 2) := by decide +kernel
theorem dd_C_gathered_25 : decode cc_C_gathered 25 = .ok (.iushr, 1) := by decide +kernel
theorem dd_C_gathered_26 : decode cc_C_gathered 26 = .ok (.sipush 255, 3) := by decide +kernel
theorem dd_C_gathered_29 : decode cc_C_gathered 29 = .ok (.iand, 1) := by decide +kernel
theorem dd_C_gathered_30 : decode cc_C_gathered 30 = .ok (.iaload, 1) := by decide +kernel
theorem dd_C_gathered_31 : decode cc_C_gathered 31 = .ok (.bipush 16, 2) := by decide +kernel
theorem dd_C_gathered_33 : decode cc_C_gathered 33 = .ok (.ishl, 1) := by decide +kernel
theorem dd_C_gathered_34 : decode cc_C_gathered 34 = .ok (.ior, 1) := by decide +kernel
theorem dd_C_gathered_35 : decode cc_C_gathered 35 = .ok (.aload_n 0, 1) := by decide +kernel
theorem dd_C_gathered_36 : decode cc_C_gathered 36 = .ok (.iload 4, 2) := by decide +kernel
theorem dd_C_gathered_38 : decode cc_C_gathered 38 = .ok (.bipush 24, 2) := by decide +kernel
theorem dd_C_gathered_40 : decode cc_C_gathered 40 = .ok (.iushr, 1) := by decide +kernel
theorem dd_C_gathered_41 : decode cc_C_gathered 41 = .ok (.iaload, 1) := by decide +kernel
theorem dd_C_gathered_42 : decode cc_C_gathered 42 = .ok (.bipush 24, 2) := by decide +kernel
theorem dd_C_gathered_44 : decode cc_C_gathered 44 = .ok (.ishl, 1) := by decide +kernel
theorem dd_C_gathered_45 : decode cc_C_gathered 45 = .ok (.ior, 1) := by decide +kernel
theorem dd_C_gathered_46 : decode cc_C_gathered 46 = .ok (.ireturn, 1) := by decide +kernel
theorem dd_C_doubled_0 : decode cc_C_doubled 0 = .ok (.iload_n 0, 1) := by decide +kernel
theorem dd_C_doubled_1 : decode cc_C_doubled 1 = .ok (.ldc 44, 2) := by decide +kernel
theorem dd_C_doubled_3 : decode cc_C_doubled 3 = .ok (.iand, 1) := by decide +kernel
theorem dd_C_doubled_4 : decode cc_C_doubled 4 = .ok (.iconst 1, 1) := by decide +kernel
theorem dd_C_doubled_5 : decode cc_C_doubled 5 = .ok (.ishl, 1) := by decide +kernel
theorem dd_C_doubled_6 : decode cc_C_doubled 6 = .ok (.iload_n 0, 1) := by decide +kernel
theorem dd_C_doubled_7 : decode cc_C_doubled 7 = .ok (.bipush 7, 2) := by decide +kernel
theorem dd_C_doubled_9 : decode cc_C_doubled 9 = .ok (.iushr, 1) := by decide +kernel
theorem dd_C_doubled_10 : decode cc_C_doubled 10 = .ok (.ldc 45, 2) := by decide +kernel
theorem dd_C_doubled_12 : decode cc_C_doubled 12 = .ok (.iand, 1) := by decide +kernel
theorem dd_C_doubled_13 : decode cc_C_doubled 13 = .ok (.bipush 27, 2) := by decide +kernel
theorem dd_C_doubled_15 : decode cc_C_doubled 15 = .ok (.imul, 1) := by decide +kernel
theorem dd_C_doubled_16 : decode cc_C_doubled 16 = .ok (.ixor, 1) := by decide +kernel
theorem dd_C_doubled_17 : decode cc_C_doubled 17 = .ok (.ireturn, 1) := by decide +kernel
theorem dd_C_mixed_0 : decode cc_C_mixed 0 = .ok (.iload_n 0, 1) := by decide +kernel
theorem dd_C_mixed_1 : decode cc_C_mixed 1 = .ok (.iload_n 1, 1) := by decide +kernel
theorem dd_C_mixed_2 : decode cc_C_mixed 2 = .ok (.ixor, 1) := by decide +kernel
theorem dd_C_mixed_3 : decode cc_C_mixed 3 = .ok (.istore_n 2, 1) := by decide +kernel
theorem dd_C_mixed_4 : decode cc_C_mixed 4 = .ok (.iload_n 1, 1) := by decide +kernel
theorem dd_C_mixed_5 : decode cc_C_mixed 5 = .ok (.iload_n 2, 1) := by decide +kernel
theorem dd_C_mixed_6 : decode cc_C_mixed 6 = .ok (.bipush 8, 2) := by decide +kernel
theorem dd_C_mixed_8 : decode cc_C_mixed 8 = .ok (.iushr, 1) := by decide +kernel
theorem dd_C_mixed_9 : decode cc_C_mixed 9 = .ok (.iload_n 2, 1) := by decide +kernel
theorem dd_C_mixed_10 : decode cc_C_mixed 10 = .ok (.bipush 24, 2) := by decide +kernel
theorem dd_C_mixed_12 : decode cc_C_mixed 12 = .ok (.ishl, 1) := by decide +kernel
theorem dd_C_mixed_13 : decode cc_C_mixed 13 = .ok (.ior, 1) := by decide +kernel
theorem dd_C_mixed_14 : decode cc_C_mixed 14 = .ok (.ixor, 1) := by decide +kernel
theorem dd_C_mixed_15 : decode cc_C_mixed 15 = .ok (.iload_n 0, 1) := by decide +kernel
theorem dd_C_mixed_16 : decode cc_C_mixed 16 = .ok (.bipush 16, 2) := by decide +kernel
theorem dd_C_mixed_18 : decode cc_C_mixed 18 = .ok (.iushr, 1) := by decide +kernel
theorem dd_C_mixed_19 : decode cc_C_mixed 19 = .ok (.iload_n 0, 1) := by decide +kernel
theorem dd_C_mixed_20 : decode cc_C_mixed 20 = .ok (.bipush 16, 2) := by decide +kernel
theorem dd_C_mixed_22 : decode cc_C_mixed 22 = .ok (.ishl, 1) := by decide +kernel
theorem dd_C_mixed_23 : decode cc_C_mixed 23 = .ok (.ior, 1) := by decide +kernel
theorem dd_C_mixed_24 : decode cc_C_mixed 24 = .ok (.ixor, 1) := by decide +kernel
theorem dd_C_mixed_25 : decode cc_C_mixed 25 = .ok (.iload_n 0, 1) := by decide +kernel
theorem dd_C_mixed_26 : decode cc_C_mixed 26 = .ok (.bipush 24, 2) := by decide +kernel
theorem dd_C_mixed_28 : decode cc_C_mixed 28 = .ok (.iushr, 1) := by decide +kernel
theorem dd_C_mixed_29 : decode cc_C_mixed 29 = .ok (.iload_n 0, 1) := by decide +kernel
theorem dd_C_mixed_30 : decode cc_C_mixed 30 = .ok (.bipush 8, 2) := by decide +kernel
theorem dd_C_mixed_32 : decode cc_C_mixed 32 = .ok (.ishl, 1) := by decide +kernel
theorem dd_C_mixed_33 : decode cc_C_mixed 33 = .ok (.ior, 1) := by decide +kernel
theorem dd_C_mixed_34 : decode cc_C_mixed 34 = .ok (.ixor, 1) := by decide +kernel
theorem dd_C_mixed_35 : decode cc_C_mixed 35 = .ok (.ireturn, 1) := by decide +kernel
theorem dd_C_unmixed_0 : decode cc_C_unmixed 0 = .ok (.iload_n 0, 1) := by decide +kernel
theorem dd_C_unmixed_1 : decode cc_C_unmixed 1 = .ok (.iload_n 0, 1) := by decide +kernel
theorem dd_C_unmixed_2 : decode cc_C_unmixed 2 = .ok (.bipush 16, 2) := by decide +kernel
theorem dd_C_unmixed_4 : decode cc_C_unmixed 4 = .ok (.iushr, 1) := by decide +kernel
theorem dd_C_unmixed_5 : decode cc_C_unmixed 5 = .ok (.iload_n 0, 1) := by decide +kernel
theorem dd_C_unmixed_6 : decode cc_C_unmixed 6 = .ok (.bipush 16, 2) := by decide +kernel
theorem dd_C_unmixed_8 : decode cc_C_unmixed 8 = .ok (.ishl, 1) := by decide +kernel
theorem dd_C_unmixed_9 : decode cc_C_unmixed 9 = .ok (.ior, 1) := by decide +kernel
theorem dd_C_unmixed_10 : decode cc_C_unmixed 10 = .ok (.ixor, 1) := by decide +kernel
theorem dd_C_unmixed_11 : decode cc_C_unmixed 11 = .ok (.istore_n 1, 1) := by decide +kernel
theorem dd_C_unmixed_12 : decode cc_C_unmixed 12 = .ok (.iload_n 0, 1) := by decide +kernel
theorem dd_C_unmixed_13 : decode cc_C_unmixed 13 = .ok (.iload_n 1, 1) := by decide +kernel
theorem dd_C_unmixed_14 : decode cc_C_unmixed 14 = .ok (.invokestatic 26, 3) := by decide +kernel
theorem dd_C_unmixed_17 : decode cc_C_unmixed 17 = .ok (.invokestatic 26, 3) := by decide +kernel
theorem dd_C_unmixed_20 : decode cc_C_unmixed 20 = .ok (.ixor, 1) := by decide +kernel
theorem dd_C_unmixed_21 : decode cc_C_unmixed 21 = .ok (.istore_n 2, 1) := by decide +kernel
theorem dd_C_unmixed_22 : decode cc_C_unmixed 22 = .ok (.iload_n 2, 1) := by decide +kernel
theorem dd_C_unmixed_23 : decode cc_C_unmixed 23 = .ok (.iload_n 2, 1) := by decide +kernel
theorem dd_C_unmixed_24 : decode cc_C_unmixed 24 = .ok (.invokestatic 26, 3) := by decide +kernel
theorem dd_C_unmixed_27 : decode cc_C_unmixed 27 = .ok (.invokestatic 30, 3) := by decide +kernel
theorem dd_C_unmixed_30 : decode cc_C_unmixed 30 = .ok (.ireturn, 1) := by decide +kernel
theorem dd_D_init_0 : decode cc_D_init 0 = .ok (.aload_n 0, 1) := by decide +kernel
theorem dd_D_init_1 : decode cc_D_init 1 = .ok (.invokespecial 3, 3) := by decide +kernel
theorem dd_D_init_4 : decode cc_D_init 4 = .ok (.aload_n 0, 1) := by decide +kernel
theorem dd_D_init_5 : decode cc_D_init 5 = .ok (.new 9, 3) := by decide +kernel
theorem dd_D_init_8 : decode cc_D_init 8 = .ok (.dup, 1) := by decide +kernel
theorem dd_D_init_9 : decode cc_D_init 9 = .ok (.invokespecial 11, 3) := by decide +kernel
theorem dd_D_init_12 : decode cc_D_init 12 = .ok (.putfield 12, 3) := by decide +kernel
theorem dd_D_init_15 : decode cc_D_init 15 = .ok (.aload_n 0, 1) := by decide +kernel
theorem dd_D_init_16 : decode cc_D_init 16 = .ok (.new 18, 3) := by decide +kernel
theorem dd_D_init_19 : decode cc_D_init 19 = .ok (.dup, 1) := by decide +kernel
theorem dd_D_init_20 : decode cc_D_init 20 = .ok (.invokespecial 20, 3) := by decide +kernel
theorem dd_D_init_23 : decode cc_D_init 23 = .ok (.putfield 21, 3) := by decide +kernel
theorem dd_D_init_26 : decode cc_D_init 26 = .ok (.aload_n 0, 1) := by decide +kernel
theorem dd_D_init_27 : decode cc_D_init 27 = .ok (.new 25, 3) := by decide +kernel
theorem dd_D_init_30 : decode cc_D_init 30 = .ok (.dup, 1) := by decide +kernel
theorem dd_D_init_31 : decode cc_D_init 31 = .ok (.invokespecial 27, 3) := by decide +kernel
theorem dd_D_init_34 : decode cc_D_init 34 = .ok (.putfield 28, 3) := by decide +kernel
theorem dd_D_init_37 : decode cc_D_init 37 = .ok (.aload_n 0, 1) := by decide +kernel
theorem dd_D_init_38 : decode cc_D_init 38 = .ok (.new 25, 3) := by decide +kernel
theorem dd_D_init_41 : decode cc_D_init 41 = .ok (.dup, 1) := by decide +kernel
theorem dd_D_init_42 : decode cc_D_init 42 = .ok (.invokespecial 27, 3) := by decide +kernel
theorem dd_D_init_45 : decode cc_D_init 45 = .ok (.putfield 32, 3) := by decide +kernel
theorem dd_D_init_48 : decode cc_D_init 48 = .ok (.aload_n 0, 1) := by decide +kernel
theorem dd_D_init_49 : decode cc_D_init 49 = .ok (.iconst 0, 1) := by decide +kernel
theorem dd_D_init_50 : decode cc_D_init 50 = .ok (.putfield 35, 3) := by decide +kernel
theorem dd_D_init_53 : decode cc_D_init 53 = .ok (.aload_n 0, 1) := by decide +kernel
theorem dd_D_init_54 : decode cc_D_init 54 = .ok (.iconst 0, 1) := by decide +kernel
theorem dd_D_init_55 : decode cc_D_init 55 = .ok (.putfield 39, 3) := by decide +kernel
theorem dd_D_init_58 : decode cc_D_init 58 = .ok (.aload_n 0, 1) := by decide +kernel
theorem dd_D_init_59 : decode cc_D_init 59 = .ok (.iconst 0, 1) := by decide +kernel
theorem dd_D_init_60 : decode cc_D_init 60 = .ok (.putfield 42, 3) := by decide +kernel
theorem dd_D_init_63 : decode cc_D_init 63 = .ok (.aload_n 0, 1) := by decide +kernel
theorem dd_D_init_64 : decode cc_D_init 64 = .ok (.iconst 0, 1) := by decide +kernel
theorem dd_D_init_65 : decode cc_D_init 65 = .ok (.putfield 45, 3) := by decide +kernel
theorem dd_D_init_68 : decode cc_D_init 68 = .ok (.aload_n 0, 1) := by decide +kernel
theorem dd_D_init_69 : decode cc_D_init 69 = .ok (.iconst (-1), 1) := by decide +kernel
theorem dd_D_init_70 : decode cc_D_init 70 = .ok (.putfield 48, 3) := by decide +kernel
theorem dd_D_init_73 : decode cc_D_init 73 = .ok (.aload_n 0, 1) := by decide +kernel
theorem dd_D_init_74 : decode cc_D_init 74 = .ok (.iconst 0, 1) := by decide +kernel
theorem dd_D_init_75 : decode cc_D_init 75 = .ok (.putfield 51, 3) := by decide +kernel
theorem dd_D_init_78 : decode cc_D_init 78 = .ok (.aload_n 0, 1) := by decide +kernel
theorem dd_D_init_79 : decode cc_D_init 79 = .ok (.iconst 0, 1) := by decide +kernel
theorem dd_D_init_80 : decode cc_D_init 80 = .ok (.putfield 55, 3) := by decide +kernel
theorem dd_D_init_83 : decode cc_D_init 83 = .ok (.aload_n 0, 1) := by decide +kernel
theorem dd_D_init_84 : decode cc_D_init 84 = .ok (.iconst 0, 1) := by decide +kernel
theorem dd_D_init_85 : decode cc_D_init 85 = .ok (.putfield 58, 3) := by decide +kernel
theorem dd_D_init_88 : decode cc_D_init 88 = .ok (.aload_n 0, 1) := by decide +kernel
theorem dd_D_init_89 : decode cc_D_init 89 = .ok (.iconst 0, 1) := by decide +kernel
theorem dd_D_init_90 : decode cc_D_init 90 = .ok (.putfield 61, 3) := by decide +kernel
theorem dd_D_init_93 : decode cc_D_init 93 = .ok (.aload_n 0, 1) := by decide +kernel
theorem dd_D_init_94 : decode cc_D_init 94 = .ok (.iconst 0, 1) := by decide +kernel
theorem dd_D_init_95 : decode cc_D_init 95 = .ok (.putfield 64, 3) := by decide +kernel
theorem dd_D_init_98 : decode cc_D_init 98 = .ok (.aload_n 0, 1) := by decide +kernel
theorem dd_D_init_99 : decode cc_D_init 99 = .ok (.iconst 0, 1) := by decide +kernel
theorem dd_D_init_100 : decode cc_D_init 100 = .ok (.putfield 67, 3) := by decide +kernel
theorem dd_D_init_103 : decode cc_D_init 103 = .ok (.aload_n 0, 1) := by decide +kernel
theorem dd_D_init_104 : decode cc_D_init 104 = .ok (.iconst 0, 1) := by decide +kernel
theorem dd_D_init_105 : decode cc_D_init 105 = .ok (.putfield 70, 3) := by decide +kernel
theorem dd_D_init_108 : decode cc_D_init 108 = .ok (.aload_n 0, 1) := by decide +kernel
theorem dd_D_init_109 : decode cc_D_init 109 = .ok (.iload_n 1, 1) := by decide +kernel
theorem dd_D_init_110 : decode cc_D_init 110 = .ok (.putfield 73, 3) := by decide +kernel
theorem dd_D_init_113 : decode cc_D_init 113 = .ok (.aload_n 0, 1) := by decide +kernel
theorem dd_D_init_114 : decode cc_D_init 114 = .ok (.aload_n 2, 1) := by decide +kernel
theorem dd_D_init_115 : decode cc_D_init 115 = .ok (.putfield 76, 3) := by decide +kernel
theorem dd_D_init_118 : decode cc_D_init 118 = .ok (.return_, 1) := by decide +kernel
theorem dd_D_isFree_0 : decode cc_D_isFree 0 = .ok (.aload_n 0, 1) := by decide +kernel
theorem dd_D_isFree_1 : decode cc_D_isFree 1 = .ok (.getfield 35, 3) := by decide +kernel
theorem dd_D_isFree_4 : decode cc_D_isFree 4 = .ok (.iconst 2, 1) := by decide +kernel
theorem dd_D_isFree_5 : decode cc_D_isFree 5 = .ok (.if_icmp .ne 14, 3) := by decide +kernel
theorem dd_D_isFree_8 : decode cc_D_isFree 8 = .ok (.aload_n 0, 1) := by decide +kernel
theorem dd_D_isFree_9 : decode cc_D_isFree 9 = .ok (.getfield 51, 3) := by decide +kernel
theorem dd_D_isFree_12 : decode cc_D_isFree 12 = .ok (.ifCond .ne 7, 3) := by decide +kernel
theorem dd_D_isFree_15 : decode cc_D_isFree 15 = .ok (.iconst 1, 1) := by decide +kernel
theorem dd_D_isFree_16 : decode cc_D_isFree 16 = .ok (.goto 4, 3) := by decide +kernel
theorem dd_D_isFree_19 : decode cc_D_isFree 19 = .ok (.iconst 0, 1) := by decide +kernel
theorem dd_D_isFree_20 : decode cc_D_isFree 20 = .ok (.ireturn, 1) := by decide +kernel
theorem dd_D_writeJoin_0 : decode cc_D_writeJoin 0 = .ok (.aload_n 0, 1) := by decide +kernel
theorem dd_D_writeJoin_1 : decode cc_D_writeJoin 1 = .ok (.dup, 1) := by decide +kernel
theorem dd_D_writeJoin_2 : decode cc_D_writeJoin 2 = .ok (.getfield 39, 3) := by decide +kernel
theorem dd_D_writeJoin_5 : decode cc_D_writeJoin 5 = .ok (.iconst 1, 1) := by decide +kernel
theorem dd_D_writeJoin_6 : decode cc_D_writeJoin 6 = .ok (.iadd, 1) := by decide +kernel
theorem dd_D_writeJoin_7 : decode cc_D_writeJoin 7 = .ok (.putfield 39, 3) := by decide +kernel
theorem dd_D_writeJoin_10 : decode cc_D_writeJoin 10 = .ok (.aload_n 0, 1) := by decide +kernel
theorem dd_D_writeJoin_11 : decode cc_D_writeJoin 11 = .ok (.iconst 1, 1) := by decide +kernel
theorem dd_D_writeJoin_12 : decode cc_D_writeJoin 12 = .ok (.putfield 35, 3) := by decide +kernel
theorem dd_D_writeJoin_15 : decode cc_D_writeJoin 15 = .ok (.aload_n 0, 1) := by decide +kernel
theorem dd_D_writeJoin_16 : decode cc_D_writeJoin 16 = .ok (.iconst 0, 1) := by decide +kernel
theorem dd_D_writeJoin_17 : decode cc_D_writeJoin 17 = .ok (.putfield 61, 3) := by decide +kernel
theorem dd_D_writeJoin_20 : decode cc_D_writeJoin 20 = .ok (.aload_n 0, 1) := by decide +kernel
theorem dd_D_writeJoin_21 : decode cc_D_writeJoin 21 = .ok (.iconst 0, 1) := by decide +kernel
theorem dd_D_writeJoin_22 : decode cc_D_writeJoin 22 = .ok (.putfield 58, 3) := by decide +kernel
theorem dd_D_writeJoin_25 : decode cc_D_writeJoin 25 = .ok (.aload_n 0, 1) := by decide +kernel
theorem dd_D_writeJoin_26 : decode cc_D_writeJoin 26 = .ok (.getfield 28, 3) := by decide +kernel
theorem dd_D_writeJoin_29 : decode cc_D_writeJoin 29 = .ok (.iconst 0, 1) := by decide +kernel
theorem dd_D_writeJoin_30 : decode cc_D_writeJoin 30 = .ok (.iconst 3, 1) := by decide +kernel
theorem dd_D_writeJoin_31 : decode cc_D_writeJoin 31 = .ok (.invokevirtual 80, 3) := by decide +kernel
theorem dd_D_writeJoin_34 : decode cc_D_writeJoin 34 = .ok (.aload_n 0, 1) := by decide +kernel
theorem dd_D_writeJoin_35 : decode cc_D_writeJoin 35 = .ok (.getfield 28, 3) := by decide +kernel
theorem dd_D_writeJoin_38 : decode cc_D_writeJoin 38 = .ok (.bipush 8, 2) := by decide +kernel
theorem dd_D_writeJoin_40 : decode cc_D_writeJoin 40 = .ok (.invokevirtual 84, 3) := by decide +kernel
theorem dd_D_writeJoin_43 : decode cc_D_writeJoin 43 = .ok (.aload_n 0, 1) := by decide +kernel
theorem dd_D_writeJoin_44 : decode cc_D_writeJoin 44 = .ok (.getfield 28, 3) := by decide +kernel
theorem dd_D_writeJoin_47 : decode cc_D_writeJoin 47 = .ok (.aload_n 0, 1) := by decide +kernel
theorem dd_D_writeJoin_48 : decode cc_D_writeJoin 48 = .ok (.getfield 73, 3) := by decide +kernel
theorem dd_D_writeJoin_51 : decode cc_D_writeJoin 51 = .ok (.iconst 1, 1) := by decide +kernel
theorem dd_D_writeJoin_52 : decode cc_D_writeJoin 52 = .ok (.invokevirtual 88, 3) := by decide +kernel
theorem dd_D_writeJoin_55 : decode cc_D_writeJoin 55 = .ok (.aload_n 0, 1) := by decide +kernel
theorem dd_D_writeJoin_56 : decode cc_D_writeJoin 56 = .ok (.getfield 28, 3) := by decide +kernel
theorem dd_D_writeJoin_59 : decode cc_D_writeJoin 59 = .ok (.bipush 7, 2) := by decide +kernel
theorem dd_D_writeJoin_61 : decode cc_D_writeJoin 61 = .ok (.invokevirtual 84, 3) := by decide +kernel
theorem dd_D_writeJoin_64 : decode cc_D_writeJoin 64 = .ok (.aload_n 0, 1) := by decide +kernel
theorem dd_D_writeJoin_65 : decode cc_D_writeJoin 65 = .ok (.getfield 28, 3) := by decide +kernel
theorem dd_D_writeJoin_68 : decode cc_D_writeJoin 68 = .ok (.aload_n 0, 1) := by decide +kernel
theorem dd_D_writeJoin_69 : decode cc_D_writeJoin 69 = .ok (.getfield 39, 3) := by decide +kernel
theorem dd_D_writeJoin_72 : decode cc_D_writeJoin 72 = .ok (.iconst 2, 1) := by decide +kernel
theorem dd_D_writeJoin_73 : decode cc_D_writeJoin 73 = .ok (.invokevirtual 88, 3) := by decide +kernel
theorem dd_D_writeJoin_76 : decode cc_D_writeJoin 76 = .ok (.aload_n 0, 1) := by decide +kernel
theorem dd_D_writeJoin_77 : decode cc_D_writeJoin 77 = .ok (.getfield 28, 3) := by decide +kernel
theorem dd_D_writeJoin_80 : decode cc_D_writeJoin 80 = .ok (.aload_n 0, 1) := by decide +kernel
theorem dd_D_writeJoin_81 : decode cc_D_writeJoin 81 = .ok (.getfield 76, 3) := by decide +kernel
theorem dd_D_writeJoin_84 : decode cc_D_writeJoin 84 = .ok (.aload_n 0, 1) := by decide +kernel
theorem dd_D_writeJoin_85 : decode cc_D_writeJoin 85 = .ok (.getfield 28, 3) := by decide +kernel
theorem dd_D_writeJoin_88 : decode cc_D_writeJoin 88 = .ok (.getfield 91, 3) := by decide +kernel
theorem dd_D_writeJoin_91 : decode cc_D_writeJoin 91 = .ok (.aload_n 0, 1) := by decide +kernel
theorem dd_D_writeJoin_92 : decode cc_D_writeJoin 92 = .ok (.getfield 28, 3) := by decide +kernel
theorem dd_D_writeJoin_95 : decode cc_D_writeJoin 95 = .ok (.getfield 95, 3) := by decide +kernel
theorem dd_D_writeJoin_98 : decode cc_D_writeJoin 98 = .ok (.invokevirtual 98, 3) := by decide +kernel
theorem dd_D_writeJoin_101 : decode cc_D_writeJoin 101 = .ok (.iconst 4, 1) := by decide +kernel
theorem dd_D_writeJoin_102 : decode cc_D_writeJoin 102 = .ok (.invokevirtual 88, 3) := by decide +kernel
theorem dd_D_writeJoin_105 : decode cc_D_writeJoin 105 = .ok (.return_, 1) := by decide +kernel
theorem dd_D_writeData_0 : decode cc_D_writeData 0 = .ok (.aload_n 0, 1) := by decide +kernel
theorem dd_D_writeData_1 : decode cc_D_writeData 1 = .ok (.iload 4, 2) := by decide +kernel
theorem dd_D_writeData_3 : decode cc_D_writeData 3 = .ok (.putfield 61, 3) := by decide +kernel
theorem dd_D_writeData_6 : decode cc_D_writeData 6 = .ok (.aload_n 0, 1) := by decide +kernel
theorem dd_D_writeData_7 : decode cc_D_writeData 7 = .ok (.iconst 0, 1) := by decide +kernel
theorem dd_D_writeData_8 : decode cc_D_writeData 8 = .ok (.putfield 58, 3) := by decide +kernel
theorem dd_D_writeData_11 : decode cc_D_writeData 11 = .ok (.aload_n 0, 1) := by decide +kernel
theorem dd_D_writeData_12 : decode cc_D_writeData 12 = .ok (.getfield 12, 3) := by decide +kernel
theorem dd_D_writeData_15 : decode cc_D_writeData 15 = .ok (.aload_n 0, 1) := by decide +kernel
theorem dd_D_writeData_16 : decode cc_D_writeData 16 = .ok (.getfield 28, 3) := by decide +kernel
theorem dd_D_writeData_19 : decode cc_D_writeData 19 = .ok (.iload 4, 2) := by decide +kernel
theorem dd_D_writeData_21 : decode cc_D_writeData 21 = .ok (.ifCond .eq 9, 3) := by decide +kernel
theorem dd_D_writeData_24 : decode cc_D_writeData 24 = .ok (.sipush 128, 3) := by decide +kernel
theorem dd_D_writeData_27 : decode cc_D_writeData 27 = .ok (.goto 5, 3) := by decide +kernel
theorem dd_D_writeData_30 : decode cc_D_writeData 30 = .ok (.bipush 64, 2) := by decide +kernel
theorem dd_D_writeData_32 : decode cc_D_writeData 32 = .ok (.iconst 3, 1) := by decide +kernel
theorem dd_D_writeData_33 : decode cc_D_writeData 33 = .ok (.iload 5, 2) := by decide +kernel
theorem dd_D_writeData_35 : decode cc_D_writeData 35 = .ok (.ifCond .eq 7, 3) := by decide +kernel
theorem dd_D_writeData_38 : decode cc_D_writeData 38 = .ok (.iconst 1, 1) := by decide +kernel
theorem dd_D_writeData_39 : decode cc_D_writeData 39 = .ok (.goto 4, 3) := by decide +kernel
theorem dd_D_writeData_42 : decode cc_D_writeData 42 = .ok (.iconst 0, 1) := by decide +kernel
theorem dd_D_writeData_43 : decode cc_D_writeData 43 = .ok (.aload_n 0, 1) := by decide +kernel
theorem dd_D_writeData_44 : decode cc_D_writeData 44 = .ok (.getfield 45, 3) := by decide +kernel
theorem dd_D_writeData_47 : decode cc_D_writeData 47 = .ok (.invokevirtual 104, 3) := by decide +kernel
theorem dd_D_writeData_50 : decode cc_D_writeData 50 = .ok (.iload 5, 2) := by decide +kernel
theorem dd_D_writeData_52 : decode cc_D_writeData 52 = .ok (.ifCond .eq 12, 3) := by decide +kernel
theorem dd_D_writeData_55 : decode cc_D_writeData 55 = .ok (.aload_n 0, 1) := by decide +kernel
theorem dd_D_writeData_56 : decode cc_D_writeData 56 = .ok (.getfield 28, 3) := by decide +kernel
theorem dd_D_writeData_59 : decode cc_D_writeData 59 = .ok (.iconst 2, 1) := by decide +kernel
theorem dd_D_writeData_60 : decode cc_D_writeData 60 = .ok (.iconst 1, 1) := by decide +kernel
theorem dd_D_writeData_61 : decode cc_D_writeData 61 = .ok (.invokevirtual 88, 3) := by decide +kernel
theorem dd_D_writeData_64 : decode cc_D_writeData 64 = .ok (.aload_n 0, 1) := by decide +kernel
theorem dd_D_writeData_65 : decode cc_D_writeData 65 = .ok (.getfield 12, 3) := by decide +kernel
theorem dd_D_writeData_68 : decode cc_D_writeData 68 = .ok (.aload_n 0, 1) := by decide +kernel
theorem dd_D_writeData_69 : decode cc_D_writeData 69 = .ok (.getfield 28, 3) := by decide +kernel
theorem dd_D_writeData_72 : decode cc_D_writeData 72 = .ok (.iconst 0, 1) := by decide +kernel
theorem dd_D_writeData_73 : decode cc_D_writeData 73 = .ok (.aload_n 0, 1) := by decide +kernel
theorem dd_D_writeData_74 : decode cc_D_writeData 74 = .ok (.getfield 45, 3) := by decide +kernel
theorem dd_D_writeData_77 : decode cc_D_writeData 77 = .ok (.lload_n 1, 1) := by decide +kernel
theorem dd_D_writeData_78 : decode cc_D_writeData 78 = .ok (.iload_n 3, 1) := by decide +kernel
theorem dd_D_writeData_79 : decode cc_D_writeData 79 = .ok (.invokevirtual 107, 3) := by decide +kernel
theorem dd_D_writeData_82 : decode cc_D_writeData 82 = .ok (.aload_n 0, 1) := by decide +kernel
theorem dd_D_writeData_83 : decode cc_D_writeData 83 = .ok (.dup, 1) := by decide +kernel
theorem dd_D_writeData_84 : decode cc_D_writeData 84 = .ok (.getfield 45, 3) := by decide +kernel
theorem dd_D_writeData_87 : decode cc_D_writeData 87 = .ok (.iconst 1, 1) := by decide +kernel
theorem dd_D_writeData_88 : decode cc_D_writeData 88 = .ok (.iadd, 1) := by decide +kernel
theorem dd_D_writeData_89 : decode cc_D_writeData 89 = .ok (.putfield 45, 3) := by decide +kernel
theorem dd_D_writeData_92 : decode cc_D_writeData 92 = .ok (.return_, 1) := by decide +kernel
theorem dd_D_transmit_0 : decode cc_D_transmit 0 = .ok (.aload_n 1, 1) := by decide +kernel
theorem dd_D_transmit_1 : decode cc_D_transmit 1 = .ok (.aload_n 0, 1) := by decide +kernel
theorem dd_D_transmit_2 : decode cc_D_transmit 2 = .ok (.getfield 28, 3) := by decide +kernel
theorem dd_D_transmit_5 : decode cc_D_transmit 5 = .ok (.invokevirtual 111, 3) := by decide +kernel
theorem dd_D_transmit_8 : decode cc_D_transmit 8 = .ok (.aload_n 0, 1) := by decide +kernel
theorem dd_D_transmit_9 : decode cc_D_transmit 9 = .ok (.dup, 1) := by decide +kernel
theorem dd_D_transmit_10 : decode cc_D_transmit 10 = .ok (.getfield 58, 3) := by decide +kernel
theorem dd_D_transmit_13 : decode cc_D_transmit 13 = .ok (.iconst 1, 1) := by decide +kernel
theorem dd_D_transmit_14 : decode cc_D_transmit 14 = .ok (.iadd, 1) := by decide +kernel
theorem dd_D_transmit_15 : decode cc_D_transmit 15 = .ok (.putfield 58, 3) := by decide +kernel
theorem dd_D_transmit_18 : decode cc_D_transmit 18 = .ok (.aload_n 0, 1) := by decide +kernel
theorem dd_D_transmit_19 : decode cc_D_transmit 19 = .ok (.iload_n 2, 1) := by decide +kernel
theorem dd_D_transmit_20 : decode cc_D_transmit 20 = .ok (.putfield 55, 3) := by decide +kernel
theorem dd_D_transmit_23 : decode cc_D_transmit 23 = .ok (.aload_n 0, 1) := by decide +kernel
theorem dd_D_transmit_24 : decode cc_D_transmit 24 = .ok (.iconst 1, 1) := by decide +kernel
theorem dd_D_transmit_25 : decode cc_D_transmit 25 = .ok (.putfield 51, 3) := by decide +kernel
theorem dd_D_transmit_28 : decode cc_D_transmit 28 = .ok (.return_, 1) := by decide +kernel
theorem dd_D_endWaiting_0 : decode cc_D_endWaiting 0 = .ok (.aload_n 0, 1) := by decide +kernel
theorem dd_D_endWaiting_1 : decode cc_D_endWaiting 1 = .ok (.getfield 51, 3) := by decide +kernel
theorem dd_D_endWaiting_4 : decode cc_D_endWaiting 4 = .ok (.ifCond .eq 13, 3) := by decide +kernel
theorem dd_D_endWaiting_7 : decode cc_D_endWaiting 7 = .ok (.iload_n 2, 1) := by decide +kernel
theorem dd_D_endWaiting_8 : decode cc_D_endWaiting 8 = .ok (.aload_n 0, 1) := by decide +kernel
theorem dd_D_endWaiting_9 : decode cc_D_endWaiting 9 = .ok (.getfield 55, 3) := by decide +kernel
theorem dd_D_endWaiting_12 : decode cc_D_endWaiting 12 = .ok (.iconst 3, 1) := by decide +kernel
theorem dd_D_endWaiting_13 : decode cc_D_endWaiting 13 = .ok (.iadd, 1) := by decide +kernel
theorem dd_D_endWaiting_14 : decode cc_D_endWaiting 14 = .ok (.if_icmp .ge 4, 3) := by decide +kernel
theorem dd_D_endWaiting_17 : decode cc_D_endWaiting 17 = .ok (.return_, 1) := by decide +kernel
theorem dd_D_endWaiting_18 : decode cc_D_endWaiting 18 = .ok (.aload_n 0, 1) := by decide +kernel
theorem dd_D_endWaiting_19 : decode cc_D_endWaiting 19 = .ok (.iconst 0, 1) := by decide +kernel
theorem dd_D_endWaiting_20 : decode cc_D_endWaiting 20 = .ok (.putfield 51, 3) := by decide +kernel
theorem dd_D_endWaiting_23 : decode cc_D_endWaiting 23 = .ok (.aload_n 0, 1) := by decide +kernel
theorem dd_D_endWaiting_24 : decode cc_D_endWaiting 24 = .ok (.getfield 35, 3) := by decide +kernel
theorem dd_D_endWaiting_27 : decode cc_D_endWaiting 27 = .ok (.iconst 1, 1) := by decide +kernel
theorem dd_D_endWaiting_28 : decode cc_D_endWaiting 28 = .ok (.if_icmp .ne 11, 3) := by decide +kernel
theorem dd_D_endWaiting_31 : decode cc_D_endWaiting 31 = .ok (.aload_n 0, 1) := by decide +kernel
theorem dd_D_endWaiting_32 : decode cc_D_endWaiting 32 = .ok (.iconst 0, 1) := by decide +kernel
theorem dd_D_endWaiting_33 : decode cc_D_endWaiting 33 = .ok (.putfield 35, 3) := by decide +kernel
theorem dd_D_endWaiting_36 : decode cc_D_endWaiting 36 = .ok (.goto 49, 3) := by decide +kernel
theorem dd_D_endWaiting_39 : decode cc_D_endWaiting 39 = .ok (.aload_n 0, 1) := by decide +kernel
theorem dd_D_endWaiting_40 : decode cc_D_endWaiting 40 = .ok (.getfield 61, 3) := by decide +kernel
theorem dd_D_endWaiting_43 : decode cc_D_endWaiting 43 = .ok (.ifCond .eq 29, 3) := by decide +kernel
theorem dd_D_endWaiting_46 : decode cc_D_endWaiting 46 = .ok (.aload_n 0, 1) := by decide +kernel
theorem dd_D_endWaiting_47 : decode cc_D_endWaiting 47 = .ok (.getfield 58, 3) := by decide +kernel
theorem dd_D_endWaiting_50 : decode cc_D_endWaiting 50 = .ok (.iconst 4, 1) := by decide +kernel
theorem dd_D_endWaiting_51 : decode cc_D_endWaiting 51 = .ok (.if_icmp .lt 21, 3) := by decide +kernel
theorem dd_D_endWaiting_54 : decode cc_D_endWaiting 54 = .ok (.aload_n 0, 1) := by decide +kernel
theorem dd_D_endWaiting_55 : decode cc_D_endWaiting 55 = .ok (.iconst 0, 1) := by decide +kernel
theorem dd_D_endWaiting_56 : decode cc_D_endWaiting 56 = .ok (.putfield 35, 3) := by decide +kernel
theorem dd_D_endWaiting_59 : decode cc_D_endWaiting 59 = .ok (.aload_n 0, 1) := by decide +kernel
theorem dd_D_endWaiting_60 : decode cc_D_endWaiting 60 = .ok (.dup, 1) := by decide +kernel
theorem dd_D_endWaiting_61 : decode cc_D_endWaiting 61 = .ok (.getfield 67, 3) := by decide +kernel
theorem dd_D_endWaiting_64 : decode cc_D_endWaiting 64 = .ok (.iconst 1, 1) := by decide +kernel
theorem dd_D_endWaiting_65 : decode cc_D_endWaiting 65 = .ok (.iadd, 1) := by decide +kernel
theorem dd_D_endWaiting_66 : decode cc_D_endWaiting 66 = .ok (.putfield 67, 3) := by decide +kernel
theorem dd_D_endWaiting_69 : decode cc_D_endWaiting 69 = .ok (.goto 16, 3) := by decide +kernel
theorem dd_D_endWaiting_72 : decode cc_D_endWaiting 72 = .ok (.aload_n 0, 1) := by decide +kernel
theorem dd_D_endWaiting_73 : decode cc_D_endWaiting 73 = .ok (.getfield 61, 3) := by decide +kernel
theorem dd_D_endWaiting_76 : decode cc_D_endWaiting 76 = .ok (.ifCond .eq 9, 3) := by decide +kernel
theorem dd_D_endWaiting_79 : decode cc_D_endWaiting 79 = .ok (.aload_n 0, 1) := by decide +kernel
theorem dd_D_endWaiting_80 : decode cc_D_endWaiting 80 = .ok (.aload_n 1, 1) := by decide +kernel
theorem dd_D_endWaiting_81 : decode cc_D_endWaiting 81 = .ok (.iload_n 2, 1) := by decide +kernel
theorem dd_D_endWaiting_82 : decode cc_D_endWaiting 82 = .ok (.invokevirtual 117, 3) := by decide +kernel
theorem dd_D_endWaiting_85 : decode cc_D_endWaiting 85 = .ok (.return_, 1) := by decide +kernel
theorem dd_D_take_0 : decode cc_D_take 0 = .ok (.aload_n 0, 1) := by decide +kernel
theorem dd_D_take_1 : decode cc_D_take 1 = .ok (.getfield 51, 3) := by decide +kernel
theorem dd_D_take_4 : decode cc_D_take 4 = .ok (.ifCond .eq 21, 3) := by decide +kernel
theorem dd_D_take_7 : decode cc_D_take 7 = .ok (.iload_n 2, 1) := by decide +kernel
theorem dd_D_take_8 : decode cc_D_take 8 = .ok (.aload_n 0, 1) := by decide +kernel
theorem dd_D_take_9 : decode cc_D_take 9 = .ok (.getfield 55, 3) := by decide +kernel
theorem dd_D_take_12 : decode cc_D_take 12 = .ok (.if_icmp .le 13, 3) := by decide +kernel
theorem dd_D_take_15 : decode cc_D_take 15 = .ok (.iload_n 2, 1) := by decide +kernel
theorem dd_D_take_16 : decode cc_D_take 16 = .ok (.aload_n 0, 1) := by decide +kernel
theorem dd_D_take_17 : decode cc_D_take 17 = .ok (.getfield 55, 3) := by decide +kernel
theorem dd_D_take_20 : decode cc_D_take 20 = .ok (.iconst 3, 1) := by decide +kernel
theorem dd_D_take_21 : decode cc_D_take 21 = .ok (.iadd, 1) := by decide +kernel
theorem dd_D_take_22 : decode cc_D_take 22 = .ok (.if_icmp .lt 4, 3) := by decide +kernel
theorem dd_D_take_25 : decode cc_D_take 25 = .ok (.return_, 1) := by decide +kernel
theorem dd_D_take_26 : decode cc_D_take 26 = .ok (.aload_n 0, 1) := by decide +kernel
theorem dd_D_take_27 : decode cc_D_take 27 = .ok (.getfield 35, 3) := by decide +kernel
theorem dd_D_take_30 : decode cc_D_take 30 = .ok (.iconst 1, 1) := by decide +kernel
theorem dd_D_take_31 : decode cc_D_take 31 = .ok (.if_icmp .ne 18, 3) := by decide +kernel
theorem dd_D_take_34 : decode cc_D_take 34 = .ok (.aload_n 1, 1) := by decide +kernel
theorem dd_D_take_35 : decode cc_D_take 35 = .ok (.invokevirtual 120, 3) := by decide +kernel
theorem dd_D_take_38 : decode cc_D_take 38 = .ok (.ifCond .eq 11, 3) := by decide +kernel
theorem dd_D_take_41 : decode cc_D_take 41 = .ok (.aload_n 0, 1) := by decide +kernel
theorem dd_D_take_42 : decode cc_D_take 42 = .ok (.aload_n 1, 1) := by decide +kernel
theorem dd_D_take_43 : decode cc_D_take 43 = .ok (.invokevirtual 124, 3) := by decide +kernel
theorem dd_D_take_46 : decode cc_D_take 46 = .ok (.goto 34, 3) := by decide +kernel
theorem dd_D_take_49 : decode cc_D_take 49 = .ok (.aload_n 0, 1) := by decide +kernel
theorem dd_D_take_50 : decode cc_D_take 50 = .ok (.getfield 35, 3) := by decide +kernel
theorem dd_D_take_53 : decode cc_D_take 53 = .ok (.iconst 2, 1) := by decide +kernel
theorem dd_D_take_54 : decode cc_D_take 54 = .ok (.if_icmp .ne 26, 3) := by decide +kernel
theorem dd_D_take_57 : decode cc_D_take 57 = .ok (.aload_n 1, 1) := by decide +kernel
theorem dd_D_take_58 : decode cc_D_take 58 = .ok (.invokevirtual 127, 3) := by decide +kernel
theorem dd_D_take_61 : decode cc_D_take 61 = .ok (.ifCond .eq 19, 3) := by decide +kernel
theorem dd_D_take_64 : decode cc_D_take 64 = .ok (.aload_n 1, 1) := by decide +kernel
theorem dd_D_take_65 : decode cc_D_take 65 = .ok (.getfield 91, 3) := by decide +kernel
theorem dd_D_take_68 : decode cc_D_take 68 = .ok (.iconst 0, 1) := by decide +kernel
theorem dd_D_take_69 : decode cc_D_take 69 = .ok (.iaload, 1) := by decide +kernel
theorem dd_D_take_70 : decode cc_D_take 70 = .ok (.bipush 96, 2) := by decide +kernel
theorem dd_D_take_72 : decode cc_D_take 72 = .ok (.if_icmp .ne 8, 3) := by decide +kernel
theorem dd_D_take_75 : decode cc_D_take 75 = .ok (.aload_n 0, 1) := by decide +kernel
theorem dd_D_take_76 : decode cc_D_take 76 = .ok (.aload_n 1, 1) := by decide +kernel
theorem dd_D_take_77 : decode cc_D_take 77 = .ok (.invokevirtual 130, 3) := by decide +kernel
theorem dd_D_take_80 : decode cc_D_take 80 = .ok (.return_, 1) := by decide +kernel
theorem dd_D_takeAccept_0 : decode cc_D_takeAccept 0 = .ok (.aload_n 0, 1) := by decide +kernel
theorem dd_D_takeAccept_1 : decode cc_D_takeAccept 1 = .ok (.getfield 32, 3) := by decide +kernel
theorem dd_D_takeAccept_4 : decode cc_D_takeAccept 4 = .ok (.aload_n 1, 1) := by decide +kernel
theorem dd_D_takeAccept_5 : decode cc_D_takeAccept 5 = .ok (.invokevirtual 133, 3) := by decide +kernel
theorem dd_D_takeAccept_8 : decode cc_D_takeAccept 8 = .ok (.aload_n 0, 1) := by decide +kernel
theorem dd_D_takeAccept_9 : decode cc_D_takeAccept 9 = .ok (.getfield 76, 3) := by decide +kernel
theorem dd_D_takeAccept_12 : decode cc_D_takeAccept 12 = .ok (.getfield 136, 3) := by decide +kernel
theorem dd_D_takeAccept_15 : decode cc_D_takeAccept 15 = .ok (.aload_n 0, 1) := by decide +kernel
theorem dd_D_takeAccept_16 : decode cc_D_takeAccept 16 = .ok (.getfield 32, 3) := by decide +kernel
theorem dd_D_takeAccept_19 : decode cc_D_takeAccept 19 = .ok (.getfield 91, 3) := by decide +kernel
theorem dd_D_takeAccept_22 : decode cc_D_takeAccept 22 = .ok (.iconst 1, 1) := by decide +kernel
theorem dd_D_takeAccept_23 : decode cc_D_takeAccept 23 = .ok (.invokevirtual 140, 3) := by decide +kernel
theorem dd_D_takeAccept_26 : decode cc_D_takeAccept 26 = .ok (.aload_n 0, 1) := by decide +kernel
theorem dd_D_takeAccept_27 : decode cc_D_takeAccept 27 = .ok (.getfield 32, 3) := by decide +kernel
theorem dd_D_takeAccept_30 : decode cc_D_takeAccept 30 = .ok (.getfield 91, 3) := by decide +kernel
theorem dd_D_takeAccept_33 : decode cc_D_takeAccept 33 = .ok (.iconst 1, 1) := by decide +kernel
theorem dd_D_takeAccept_34 : decode cc_D_takeAccept 34 = .ok (.iconst 3, 1) := by decide +kernel
theorem dd_D_takeAccept_35 : decode cc_D_takeAccept 35 = .ok (.invokestatic 146, 3) := by decide +kernel
theorem dd_D_takeAccept_38 : decode cc_D_takeAccept 38 = .ok (.istore_n 2, 1) := by decide +kernel
theorem dd_D_takeAccept_39 : decode cc_D_takeAccept 39 = .ok (.iload_n 2, 1) := by decide +kernel
theorem dd_D_takeAccept_40 : decode cc_D_takeAccept 40 = .ok (.aload_n 0, 1) := by decide +kernel
theorem dd_D_takeAccept_41 : decode cc_D_takeAccept 41 = .ok (.getfield 42, 3) := by decide +kernel
theorem dd_D_takeAccept_44 : decode cc_D_takeAccept 44 = .ok (.if_icmp .le 35, 3) := by decide +kernel
theorem dd_D_takeAccept_47 : decode cc_D_takeAccept 47 = .ok (.aload_n 0, 1) := by decide +kernel
theorem dd_D_takeAccept_48 : decode cc_D_takeAccept 48 = .ok (.getfield 76, 3) := by decide +kernel
theorem dd_D_takeAccept_51 : decode cc_D_takeAccept 51 = .ok (.aload_n 0, 1) := by decide +kernel
theorem dd_D_takeAccept_52 : decode cc_D_takeAccept 52 = .ok (.getfield 32, 3) := by decide +kernel
theorem dd_D_takeAccept_55 : decode cc_D_takeAccept 55 = .ok (.getfield 91, 3) := by decide +kernel
theorem dd_D_takeAccept_58 : decode cc_D_takeAccept 58 = .ok (.bipush 13, 2) := by decide +kernel
theorem dd_D_takeAccept_60 : decode cc_D_takeAccept 60 = .ok (.invokevirtual 98, 3) := by decide +kernel
theorem dd_D_takeAccept_63 : decode cc_D_takeAccept 63 = .ok (.aload_n 0, 1) := by decide +kernel
theorem dd_D_takeAccept_64 : decode cc_D_takeAccept 64 = .ok (.getfield 32, 3) := by decide +kernel
theorem dd_D_takeAccept_67 : decode cc_D_takeAccept 67 = .ok (.getfield 91, 3) := by decide +kernel
theorem dd_D_takeAccept_70 : decode cc_D_takeAccept 70 = .ok (.bipush 13, 2) := by decide +kernel
theorem dd_D_takeAccept_72 : decode cc_D_takeAccept 72 = .ok (.iconst 4, 1) := by decide +kernel
theorem dd_D_takeAccept_73 : decode cc_D_takeAccept 73 = .ok (.invokestatic 146, 3) := by decide +kernel
theorem dd_D_takeAccept_76 : decode cc_D_takeAccept 76 = .ok (.if_icmp .eq 4, 3) := by decide +kernel
theorem dd_D_takeAccept_79 : decode cc_D_takeAccept 79 = .ok (.return_, 1) := by decide +kernel
theorem dd_D_takeAccept_80 : decode cc_D_takeAccept 80 = .ok (.aload_n 0, 1) := by decide +kernel
theorem dd_D_takeAccept_81 : decode cc_D_takeAccept 81 = .ok (.iload_n 2, 1) := by decide +kernel
theorem dd_D_takeAccept_82 : decode cc_D_takeAccept 82 = .ok (.putfield 42, 3) := by decide +kernel
theorem dd_D_takeAccept_85 : decode cc_D_takeAccept 85 = .ok (.aload_n 0, 1) := by decide +kernel
theorem dd_D_takeAccept_86 : decode cc_D_takeAccept 86 = .ok (.getfield 12, 3) := by decide +kernel
theorem dd_D_takeAccept_89 : decode cc_D_takeAccept 89 = .ok (.aload_n 0, 1) := by decide +kernel
theorem dd_D_takeAccept_90 : decode cc_D_takeAccept 90 = .ok (.getfield 76, 3) := by decide +kernel
theorem dd_D_takeAccept_93 : decode cc_D_takeAccept 93 = .ok (.getfield 136, 3) := by decide +kernel
theorem dd_D_takeAccept_96 : decode cc_D_takeAccept 96 = .ok (.iload_n 2, 1) := by decide +kernel
theorem dd_D_takeAccept_97 : decode cc_D_takeAccept 97 = .ok (.aload_n 0, 1) := by decide +kernel
theorem dd_D_takeAccept_98 : decode cc_D_takeAccept 98 = .ok (.getfield 32, 3) := by decide +kernel
theorem dd_D_takeAccept_101 : decode cc_D_takeAccept 101 = .ok (.getfield 91, 3) := by decide +kernel
theorem dd_D_takeAccept_104 : decode cc_D_takeAccept 104 = .ok (.bipush 7, 2) := by decide +kernel
theorem dd_D_takeAccept_106 : decode cc_D_takeAccept 106 = .ok (.iconst 4, 1) := by decide +kernel
theorem dd_D_takeAccept_107 : decode cc_D_takeAccept 107 = .ok (.invokestatic 146, 3) := by decide +kernel
theorem dd_D_takeAccept_110 : decode cc_D_takeAccept 110 = .ok (.aload_n 0, 1) := by decide +kernel
theorem dd_D_takeAccept_111 : decode cc_D_takeAccept 111 = .ok (.getfield 39, 3) := by decide +kernel
theorem dd_D_takeAccept_114 : decode cc_D_takeAccept 114 = .ok (.invokevirtual 150, 3) := by decide +kernel
theorem dd_D_takeAccept_117 : decode cc_D_takeAccept 117 = .ok (.aload_n 0, 1) := by decide +kernel
theorem dd_D_takeAccept_118 : decode cc_D_takeAccept 118 = .ok (.iconst 0, 1) := by decide +kernel
theorem dd_D_takeAccept_119 : decode cc_D_takeAccept 119 = .ok (.putfield 45, 3) := by decide +kernel
theorem dd_D_takeAccept_122 : decode cc_D_takeAccept 122 = .ok (.aload_n 0, 1) := by decide +kernel
theorem dd_D_takeAccept_123 : decode cc_D_takeAccept 123 = .ok (.iconst (-1), 1) := by decide +kernel
theorem dd_D_takeAccept_124 : decode cc_D_takeAccept 124 = .ok (.putfield 48, 3) := by decide +kernel
theorem dd_D_takeAccept_127 : decode cc_D_takeAccept 127 = .ok (.aload_n 0, 1) := by decide +kernel
theorem dd_D_takeAccept_128 : decode cc_D_takeAccept 128 = .ok (.iconst 2, 1) := by decide +kernel
theorem dd_D_takeAccept_129 : decode cc_D_takeAccept 129 = .ok (.putfield 35, 3) := by decide +kernel
theorem dd_D_takeAccept_132 : decode cc_D_takeAccept 132 = .ok (.aload_n 0, 1) := by decide +kernel
theorem dd_D_takeAccept_133 : decode cc_D_takeAccept 133 = .ok (.iconst 0, 1) := by decide +kernel
theorem dd_D_takeAccept_134 : decode cc_D_takeAccept 134 = .ok (.putfield 51, 3) := by decide +kernel
theorem dd_D_takeAccept_137 : decode cc_D_takeAccept 137 = .ok (.return_, 1) := by decide +kernel
