theorem dd_A_holds_0 : decode cc_A_holds 0 = .ok (.iload_n 1, 1) := by decide +kernel
theorem dd_A_holds_1 : decode cc_A_holds 1 = .ok (.ifCond .lt 15, 3) := by decide +kernel
theorem dd_A_holds_4 : decode cc_A_holds 4 = .ok (.iload_n 1, 1) := by decide +kernel
theorem dd_A_holds_5 : decode cc_A_holds 5 = .ok (.aload_n 0, 1) := by decide +kernel
theorem dd_A_holds_6 : decode cc_A_holds 6 = .ok (.getfield 18, 3) := by decide +kernel
theorem dd_A_holds_9 : decode cc_A_holds 9 = .ok (.if_icmp .ge 7, 3) := by decide +kernel
theorem dd_A_holds_12 : decode cc_A_holds 12 = .ok (.iconst 1, 1) := by decide +kernel
theorem dd_A_holds_13 : decode cc_A_holds 13 = .ok (.goto 4, 3) := by decide +kernel
theorem dd_A_holds_16 : decode cc_A_holds 16 = .ok (.iconst 0, 1) := by decide +kernel
theorem dd_A_holds_17 : decode cc_A_holds 17 = .ok (.ireturn, 1) := by decide +kernel
theorem dd_A_transmit_0 : decode cc_A_transmit 0 = .ok (.aload_n 0, 1) := by decide +kernel
theorem dd_A_transmit_1 : decode cc_A_transmit 1 = .ok (.getfield 15, 3) := by decide +kernel
theorem dd_A_transmit_4 : decode cc_A_transmit 4 = .ok (.aload_n 0, 1) := by decide +kernel
theorem dd_A_transmit_5 : decode cc_A_transmit 5 = .ok (.getfield 22, 3) := by decide +kernel
theorem dd_A_transmit_8 : decode cc_A_transmit 8 = .ok (.bipush 8, 2) := by decide +kernel
theorem dd_A_transmit_10 : decode cc_A_transmit 10 = .ok (.irem, 1) := by decide +kernel
theorem dd_A_transmit_11 : decode cc_A_transmit 11 = .ok (.aaload, 1) := by decide +kernel
theorem dd_A_transmit_12 : decode cc_A_transmit 12 = .ok (.aload_n 1, 1) := by decide +kernel
theorem dd_A_transmit_13 : decode cc_A_transmit 13 = .ok (.invokevirtual 26, 3) := by decide +kernel
theorem dd_A_transmit_16 : decode cc_A_transmit 16 = .ok (.aload_n 0, 1) := by decide +kernel
theorem dd_A_transmit_17 : decode cc_A_transmit 17 = .ok (.dup, 1) := by decide +kernel
theorem dd_A_transmit_18 : decode cc_A_transmit 18 = .ok (.getfield 22, 3) := by decide +kernel
theorem dd_A_transmit_21 : decode cc_A_transmit 21 = .ok (.iconst 1, 1) := by decide +kernel
theorem dd_A_transmit_22 : decode cc_A_transmit 22 = .ok (.iadd, 1) := by decide +kernel
theorem dd_A_transmit_23 : decode cc_A_transmit 23 = .ok (.putfield 22, 3) := by decide +kernel
theorem dd_A_transmit_26 : decode cc_A_transmit 26 = .ok (.aload_n 0, 1) := by decide +kernel
theorem dd_A_transmit_27 : decode cc_A_transmit 27 = .ok (.aload_n 1, 1) := by decide +kernel
theorem dd_A_transmit_28 : decode cc_A_transmit 28 = .ok (.invokevirtual 30, 3) := by decide +kernel
theorem dd_A_transmit_31 : decode cc_A_transmit 31 = .ok (.pop, 1) := by decide +kernel
theorem dd_A_transmit_32 : decode cc_A_transmit 32 = .ok (.return_, 1) := by decide +kernel
theorem dd_A_repeat_0 : decode cc_A_repeat 0 = .ok (.iload_n 1, 1) := by decide +kernel
theorem dd_A_repeat_1 : decode cc_A_repeat 1 = .ok (.ifCond .lt 16, 3) := by decide +kernel
theorem dd_A_repeat_4 : decode cc_A_repeat 4 = .ok (.iload_n 1, 1) := by decide +kernel
theorem dd_A_repeat_5 : decode cc_A_repeat 5 = .ok (.aload_n 0, 1) := by decide +kernel
theorem dd_A_repeat_6 : decode cc_A_repeat 6 = .ok (.getfield 22, 3) := by decide +kernel
theorem dd_A_repeat_9 : decode cc_A_repeat 9 = .ok (.bipush 8, 2) := by decide +kernel
theorem dd_A_repeat_11 : decode cc_A_repeat 11 = .ok (.invokestatic 34, 3) := by decide +kernel
theorem dd_A_repeat_14 : decode cc_A_repeat 14 = .ok (.if_icmp .lt 5, 3) := by decide +kernel
theorem dd_A_repeat_17 : decode cc_A_repeat 17 = .ok (.iconst 0, 1) := by decide +kernel
theorem dd_A_repeat_18 : decode cc_A_repeat 18 = .ok (.ireturn, 1) := by decide +kernel
theorem dd_A_repeat_19 : decode cc_A_repeat 19 = .ok (.aload_n 0, 1) := by decide +kernel
theorem dd_A_repeat_20 : decode cc_A_repeat 20 = .ok (.aload_n 0, 1) := by decide +kernel
theorem dd_A_repeat_21 : decode cc_A_repeat 21 = .ok (.getfield 15, 3) := by decide +kernel
theorem dd_A_repeat_24 : decode cc_A_repeat 24 = .ok (.aload_n 0, 1) := by decide +kernel
theorem dd_A_repeat_25 : decode cc_A_repeat 25 = .ok (.getfield 22, 3) := by decide +kernel
theorem dd_A_repeat_28 : decode cc_A_repeat 28 = .ok (.iconst 1, 1) := by decide +kernel
theorem dd_A_repeat_29 : decode cc_A_repeat 29 = .ok (.isub, 1) := by decide +kernel
theorem dd_A_repeat_30 : decode cc_A_repeat 30 = .ok (.iload_n 1, 1) := by decide +kernel
theorem dd_A_repeat_31 : decode cc_A_repeat 31 = .ok (.isub, 1) := by decide +kernel
theorem dd_A_repeat_32 : decode cc_A_repeat 32 = .ok (.bipush 8, 2) := by decide +kernel
theorem dd_A_repeat_34 : decode cc_A_repeat 34 = .ok (.irem, 1) := by decide +kernel
theorem dd_A_repeat_35 : decode cc_A_repeat 35 = .ok (.aaload, 1) := by decide +kernel
theorem dd_A_repeat_36 : decode cc_A_repeat 36 = .ok (.invokevirtual 30, 3) := by decide +kernel
theorem dd_A_repeat_39 : decode cc_A_repeat 39 = .ok (.ireturn, 1) := by decide +kernel
theorem dd_A_takeOut_0 : decode cc_A_takeOut 0 = .ok (.aload_n 0, 1) := by decide +kernel
theorem dd_A_takeOut_1 : decode cc_A_takeOut 1 = .ok (.getfield 11, 3) := by decide +kernel
theorem dd_A_takeOut_4 : decode cc_A_takeOut 4 = .ok (.iload_n 1, 1) := by decide +kernel
theorem dd_A_takeOut_5 : decode cc_A_takeOut 5 = .ok (.aaload, 1) := by decide +kernel
theorem dd_A_takeOut_6 : decode cc_A_takeOut 6 = .ok (.astore_n 2, 1) := by decide +kernel
theorem dd_A_takeOut_7 : decode cc_A_takeOut 7 = .ok (.aload_n 0, 1) := by decide +kernel
theorem dd_A_takeOut_8 : decode cc_A_takeOut 8 = .ok (.dup, 1) := by decide +kernel
theorem dd_A_takeOut_9 : decode cc_A_takeOut 9 = .ok (.getfield 18, 3) := by decide +kernel
theorem dd_A_takeOut_12 : decode cc_A_takeOut 12 = .ok (.iconst 1, 1) := by decide +kernel
theorem dd_A_takeOut_13 : decode cc_A_takeOut 13 = .ok (.isub, 1) := by decide +kernel
theorem dd_A_takeOut_14 : decode cc_A_takeOut 14 = .ok (.putfield 18, 3) := by decide +kernel
theorem dd_A_takeOut_17 : decode cc_A_takeOut 17 = .ok (.iload_n 1, 1) := by decide +kernel
theorem dd_A_takeOut_18 : decode cc_A_takeOut 18 = .ok (.istore_n 3, 1) := by decide +kernel
theorem dd_A_takeOut_19 : decode cc_A_takeOut 19 = .ok (.iload_n 3, 1) := by decide +kernel
theorem dd_A_takeOut_20 : decode cc_A_takeOut 20 = .ok (.aload_n 0, 1) := by decide +kernel
theorem dd_A_takeOut_21 : decode cc_A_takeOut 21 = .ok (.getfield 18, 3) := by decide +kernel
theorem dd_A_takeOut_24 : decode cc_A_takeOut 24 = .ok (.if_icmp .ge 23, 3) := by decide +kernel
theorem dd_A_takeOut_27 : decode cc_A_takeOut 27 = .ok (.aload_n 0, 1) := by decide +kernel
theorem dd_A_takeOut_28 : decode cc_A_takeOut 28 = .ok (.getfield 11, 3) := by decide +kernel
theorem dd_A_takeOut_31 : decode cc_A_takeOut 31 = .ok (.iload_n 3, 1) := by decide +kernel
theorem dd_A_takeOut_32 : decode cc_A_takeOut 32 = .ok (.aload_n 0, 1) := by decide +kernel
theorem dd_A_takeOut_33 : decode cc_A_takeOut 33 = .ok (.getfield 11, 3) := by decide +kernel
theorem dd_A_takeOut_36 : decode cc_A_takeOut 36 = .ok (.iload_n 3, 1) := by decide +kernel
theorem dd_A_takeOut_37 : decode cc_A_takeOut 37 = .ok (.iconst 1, 1) := by decide +kernel
theorem dd_A_takeOut_38 : decode cc_A_takeOut 38 = .ok (.iadd, 1) := by decide +kernel
theorem dd_A_takeOut_39 : decode cc_A_takeOut 39 = .ok (.aaload, 1) := by decide +kernel
theorem dd_A_takeOut_40 : decode cc_A_takeOut 40 = .ok (.aastore, 1) := by decide +kernel
theorem dd_A_takeOut_41 : decode cc_A_takeOut 41 = .ok (.iinc 3 1, 3) := by decide +kernel
theorem dd_A_takeOut_44 : decode cc_A_takeOut 44 = .ok (.goto (-25), 3) := by decide +kernel
theorem dd_A_takeOut_47 : decode cc_A_takeOut 47 = .ok (.aload_n 0, 1) := by decide +kernel
theorem dd_A_takeOut_48 : decode cc_A_takeOut 48 = .ok (.getfield 11, 3) := by decide +kernel
theorem dd_A_takeOut_51 : decode cc_A_takeOut 51 = .ok (.aload_n 0, 1) := by decide +kernel
theorem dd_A_takeOut_52 : decode cc_A_takeOut 52 = .ok (.getfield 18, 3) := by decide +kernel
theorem dd_A_takeOut_55 : decode cc_A_takeOut 55 = .ok (.aload_n 2, 1) := by decide +kernel
theorem dd_A_takeOut_56 : decode cc_A_takeOut 56 = .ok (.aastore, 1) := by decide +kernel
theorem dd_A_takeOut_57 : decode cc_A_takeOut 57 = .ok (.aload_n 2, 1) := by decide +kernel
theorem dd_A_takeOut_58 : decode cc_A_takeOut 58 = .ok (.areturn, 1) := by decide +kernel
theorem dd_A_add_0 : decode cc_A_add 0 = .ok (.aload_n 0, 1) := by decide +kernel
theorem dd_A_add_1 : decode cc_A_add 1 = .ok (.getfield 18, 3) := by decide +kernel
theorem dd_A_add_4 : decode cc_A_add 4 = .ok (.bipush 12, 2) := by decide +kernel
theorem dd_A_add_6 : decode cc_A_add 6 = .ok (.if_icmp .ne 5, 3) := by decide +kernel
theorem dd_A_add_9 : decode cc_A_add 9 = .ok (.iconst 0, 1) := by decide +kernel
theorem dd_A_add_10 : decode cc_A_add 10 = .ok (.ireturn, 1) := by decide +kernel
theorem dd_A_add_11 : decode cc_A_add 11 = .ok (.aload_n 0, 1) := by decide +kernel
theorem dd_A_add_12 : decode cc_A_add 12 = .ok (.getfield 11, 3) := by decide +kernel
theorem dd_A_add_15 : decode cc_A_add 15 = .ok (.aload_n 0, 1) := by decide +kernel
theorem dd_A_add_16 : decode cc_A_add 16 = .ok (.getfield 18, 3) := by decide +kernel
theorem dd_A_add_19 : decode cc_A_add 19 = .ok (.aaload, 1) := by decide +kernel
theorem dd_A_add_20 : decode cc_A_add 20 = .ok (.aload_n 1, 1) := by decide +kernel
theorem dd_A_add_21 : decode cc_A_add 21 = .ok (.invokevirtual 26, 3) := by decide +kernel
theorem dd_A_add_24 : decode cc_A_add 24 = .ok (.aload_n 0, 1) := by decide +kernel
theorem dd_A_add_25 : decode cc_A_add 25 = .ok (.dup, 1) := by decide +kernel
theorem dd_A_add_26 : decode cc_A_add 26 = .ok (.getfield 18, 3) := by decide +kernel
theorem dd_A_add_29 : decode cc_A_add 29 = .ok (.iconst 1, 1) := by decide +kernel
theorem dd_A_add_30 : decode cc_A_add 30 = .ok (.iadd, 1) := by decide +kernel
theorem dd_A_add_31 : decode cc_A_add 31 = .ok (.putfield 18, 3) := by decide +kernel
theorem dd_A_add_34 : decode cc_A_add 34 = .ok (.iconst 1, 1) := by decide +kernel
theorem dd_A_add_35 : decode cc_A_add 35 = .ok (.ireturn, 1) := by decide +kernel
theorem dd_C_init_0 : decode cc_C_init 0 = .ok (.aload_n 0, 1) := by decide +kernel
theorem dd_C_init_1 : decode cc_C_init 1 = .ok (.invokespecial 1, 3) := by decide +kernel
theorem dd_C_init_4 : decode cc_C_init 4 = .ok (.aload_n 0, 1) := by decide +kernel
theorem dd_C_init_5 : decode cc_C_init 5 = .ok (.bipush 44, 2) := by decide +kernel
theorem dd_C_init_7 : decode cc_C_init 7 = .ok (.newarray .int, 2) := by decide +kernel
theorem dd_C_init_9 : decode cc_C_init 9 = .ok (.putfield 9, 3) := by decide +kernel
theorem dd_C_init_12 : decode cc_C_init 12 = .ok (.return_, 1) := by decide +kernel
theorem dd_C_takeKey_0 : decode cc_C_takeKey 0 = .ok (.iconst 0, 1) := by decide +kernel
theorem dd_C_takeKey_1 : decode cc_C_takeKey 1 = .ok (.istore_n 2, 1) := by decide +kernel
theorem dd_C_takeKey_2 : decode cc_C_takeKey 2 = .ok (.iload_n 2, 1) := by decide +kernel
theorem dd_C_takeKey_3 : decode cc_C_takeKey 3 = .ok (.iconst 4, 1) := by decide +kernel
theorem dd_C_takeKey_4 : decode cc_C_takeKey 4 = .ok (.if_icmp .ge 23, 3) := by decide +kernel
theorem dd_C_takeKey_7 : decode cc_C_takeKey 7 = .ok (.aload_n 0, 1) := by decide +kernel
theorem dd_C_takeKey_8 : decode cc_C_takeKey 8 = .ok (.getfield 9, 3) := by decide +kernel
theorem dd_C_takeKey_11 : decode cc_C_takeKey 11 = .ok (.iload_n 2, 1) := by decide +kernel
theorem dd_C_takeKey_12 : decode cc_C_takeKey 12 = .ok (.aload_n 1, 1) := by decide +kernel
theorem dd_C_takeKey_13 : decode cc_C_takeKey 13 = .ok (.iconst 4, 1) := by decide +kernel
theorem dd_C_takeKey_14 : decode cc_C_takeKey 14 = .ok (.iload_n 2, 1) := by decide +kernel
theorem dd_C_takeKey_15 : decode cc_C_takeKey 15 = .ok (.imul, 1) := by decide +kernel
theorem dd_C_takeKey_16 : decode cc_C_takeKey 16 = .ok (.iconst 4, 1) := by decide +kernel
theorem dd_C_takeKey_17 : decode cc_C_takeKey 17 = .ok (.invokestatic 13, 3) := by decide +kernel
theorem dd_C_takeKey_20 : decode cc_C_takeKey 20 = .ok (.iastore, 1) := by decide +kernel
theorem dd_C_takeKey_21 : decode cc_C_takeKey 21 = .ok (.iinc 2 1, 3) := by decide +kernel
theorem dd_C_takeKey_24 : decode cc_C_takeKey 24 = .ok (.goto (-22), 3) := by decide +kernel
theorem dd_C_takeKey_27 : decode cc_C_takeKey 27 = .ok (.iconst 1, 1) := by decide +kernel
theorem dd_C_takeKey_28 : decode cc_C_takeKey 28 = .ok (.istore_n 2, 1) := by decide +kernel
theorem dd_C_takeKey_29 : decode cc_C_takeKey 29 = .ok (.iconst 4, 1) := by decide +kernel
theorem dd_C_takeKey_30 : decode cc_C_takeKey 30 = .ok (.istore_n 3, 1) := by decide +kernel
theorem dd_C_takeKey_31 : decode cc_C_takeKey 31 = .ok (.iload_n 3, 1) := by decide +kernel
theorem dd_C_takeKey_32 : decode cc_C_takeKey 32 = .ok (.aload_n 0, 1) := by decide +kernel
theorem dd_C_takeKey_33 : decode cc_C_takeKey 33 = .ok (.getfield 9, 3) := by decide +kernel
theorem dd_C_takeKey_36 : decode cc_C_takeKey 36 = .ok (.arraylength, 1) := by decide +kernel
theorem dd_C_takeKey_37 : decode cc_C_takeKey 37 = .ok (.if_icmp .ge 78, 3) := by decide +kernel
theorem dd_C_takeKey_40 : decode cc_C_takeKey 40 = .ok (.aload_n 0, 1) := by decide +kernel
theorem dd_C_takeKey_41 : decode cc_C_takeKey 41 = .ok (.getfield 9, 3) := by decide +kernel
theorem dd_C_takeKey_44 : decode cc_C_takeKey 44 = .ok (.iload_n 3, 1) := by decide +kernel
theorem dd_C_takeKey_45 : decode cc_C_takeKey 45 = .ok (.iconst 1, 1) := by decide +kernel
theorem dd_C_takeKey_46 : decode cc_C_takeKey 46 = .ok (.isub, 1) := by decide +kernel
theorem dd_C_takeKey_47 : decode cc_C_takeKey 47 = .ok (.iaload, 1) := by decide +kernel
theorem dd_C_takeKey_48 : decode cc_C_takeKey 48 = .ok (.istore 4, 2) := by decide +kernel
theorem dd_C_takeKey_50 : decode cc_C_takeKey 50 = .ok (.iload_n 3, 1) := by decide +kernel
theorem dd_C_takeKey_51 : decode cc_C_takeKey 51 = .ok (.iconst 4, 1) := by decide +kernel
theorem dd_C_takeKey_52 : decode cc_C_takeKey 52 = .ok (.irem, 1) := by decide +kernel
theorem dd_C_takeKey_53 : decode cc_C_takeKey 53 = .ok (.ifCond .ne 39, 3) := by decide +kernel
theorem dd_C_takeKey_56 : decode cc_C_takeKey 56 = .ok (.iload 4, 2) := by decide +kernel
theorem dd_C_takeKey_58 : decode cc_C_takeKey 58 = .ok (.bipush 8, 2) := by decide +kernel
theorem dd_C_takeKey_60 : decode cc_C_takeKey 60 = .ok (.iushr, 1) := by decide +kernel
theorem dd_C_takeKey_61 : decode cc_C_takeKey 61 = .ok (.iload 4, 2) := by decide +kernel
theorem dd_C_takeKey_63 : decode cc_C_takeKey 63 = .ok (.bipush 24, 2) := by decide +kernel
theorem dd_C_takeKey_65 : decode cc_C_takeKey 65 = .ok (.ishl, 1) := by decide +kernel
theorem dd_C_takeKey_66 : decode cc_C_takeKey 66 = .ok (.ior, 1) := by decide +kernel
theorem dd_C_takeKey_67 : decode cc_C_takeKey 67 = .ok (.istore 5, 2) := by decide +kernel
theorem dd_C_takeKey_69 : decode cc_C_takeKey 69 = .ok (.getstatic 19, 3) := by decide +kernel
theorem dd_C_takeKey_72 : decode cc_C_takeKey 72 = .ok (.iload 5, 2) := by decide +kernel
theorem dd_C_takeKey_74 : decode cc_C_takeKey 74 = .ok (.iload 5, 2) := by decide +kernel
theorem dd_C_takeKey_76 : decode cc_C_takeKey 76 = .ok (.iload 5, 2) := by decide +kernel
theorem dd_C_takeKey_78 : decode cc_C_takeKey 78 = .ok (.iload 5, 2) := by decide +kernel
theorem dd_C_takeKey_80 : decode cc_C_takeKey 80 = .ok (.invokestatic 22, 3) := by decide +kernel
theorem dd_C_takeKey_83 : decode cc_C_takeKey 83 = .ok (.iload_n 2, 1) := by decide +kernel
theorem dd_C_takeKey_84 : decode cc_C_takeKey 84 = .ok (.ixor, 1) := by decide +kernel
theorem dd_C_takeKey_85 : decode cc_C_takeKey 85 = .ok (.istore 4, 2) := by decide +kernel
theorem dd_C_takeKey_87 : decode cc_C_takeKey 87 = .ok (.iload_n 2, 1) := by decide +kernel
theorem dd_C_takeKey_88 : decode cc_C_takeKey 88 = .ok (.invokestatic 26, 3) := by decide +kernel
theorem dd_C_takeKey_91 : decode cc_C_takeKey 91 = .ok (.istore_n 2, 1) := by decide +kernel
theorem dd_C_takeKey_92 : decode cc_C_takeKey 92 = .ok (.aload_n 0, 1) := by decide +kernel
theorem dd_C_takeKey_93 : decode cc_C_takeKey 93 = .ok (.getfield 9, 3) := by decide +kernel
theorem dd_C_takeKey_96 : decode cc_C_takeKey 96 = .ok (.iload_n 3, 1) := by decide +kernel
theorem dd_C_takeKey_97 : decode cc_C_takeKey 97 = .ok (.aload_n 0, 1) := by decide +kernel
theorem dd_C_takeKey_98 : decode cc_C_takeKey 98 = .ok (.getfield 9, 3) := by decide +kernel
theorem dd_C_takeKey_101 : decode cc_C_takeKey 101 = .ok (.iload_n 3, 1) := by decide +kernel
theorem dd_C_takeKey_102 : decode cc_C_takeKey 102 = .ok (.iconst 4, 1) := by decide +kernel
theorem dd_C_takeKey_103 : decode cc_C_takeKey 103 = .ok (.isub, 1) := by decide +kernel
theorem dd_C_takeKey_104 : decode cc_C_takeKey 104 = .ok (.iaload, 1) := by decide +kernel
theorem dd_C_takeKey_105 : decode cc_C_takeKey 105 = .ok (.iload 4, 2) := by decide +kernel
theorem dd_C_takeKey_107 : decode cc_C_takeKey 107 = .ok (.ixor, 1) := by decide +kernel
theorem dd_C_takeKey_108 : decode cc_C_takeKey 108 = .ok (.iastore, 1) := by decide +kernel
theorem dd_C_takeKey_109 : decode cc_C_takeKey 109 = .ok (.iinc 3 1, 3) := by decide +kernel
theorem dd_C_takeKey_112 : decode cc_C_takeKey 112 = .ok (.goto (-81), 3) := by decide +kernel
theorem dd_C_takeKey_115 : decode cc_C_takeKey 115 = .ok (.return_, 1) := by decide +kernel
theorem dd_C_encipher_0 : decode cc_C_encipher 0 = .ok (.aload_n 0, 1) := by decide +kernel
theorem dd_C_encipher_1 : decode cc_C_encipher 1 = .ok (.getfield 9, 3) := by decide +kernel
theorem dd_C_encipher_4 : decode cc_C_encipher 4 = .ok (.astore_n 3, 1) := by decide +kernel
theorem dd_C_encipher_5 : decode cc_C_encipher 5 = .ok (.aload_n 1, 1) := by decide +kernel
theorem dd_C_encipher_6 : decode cc_C_encipher 6 = .ok (.iload_n 2, 1) := by decide +kernel
theorem dd_C_encipher_7 : decode cc_C_encipher 7 = .ok (.iconst 4, 1) := by decide +kernel
theorem dd_C_encipher_8 : decode cc_C_encipher 8 = .ok (.invokestatic 13, 3) := by decide +kernel
theorem dd_C_encipher_11 : decode cc_C_encipher 11 = .ok (.aload_n 3, 1) := by decide +kernel
theorem dd_C_encipher_12 : decode cc_C_encipher 12 = .ok (.iconst 0, 1) := by decide +kernel
theorem dd_C_encipher_13 : decode cc_C_encipher 13 = .ok (.iaload, 1) := by decide +kernel
theorem dd_C_encipher_14 : decode cc_C_encipher 14 = .ok (.ixor, 1) := by decide +kernel
theorem dd_C_encipher_15 : decode cc_C_encipher 15 = .ok (.istore 4, 2) := by decide +kernel
theorem dd_C_encipher_17 : decode cc_C_encipher 17 = .ok (.aload_n 1, 1) := by decide +kernel
theorem dd_C_encipher_18 : decode cc_C_encipher 18 = .ok (.iload_n 2, 1) := by decide +kernel
theorem dd_C_encipher_19 : decode cc_C_encipher 19 = .ok (.iconst 4, 1) := by decide +kernel
theorem dd_C_encipher_20 : decode cc_C_encipher 20 = .ok (.iadd, 1) := by decide +kernel
theorem dd_C_encipher_21 : decode cc_C_encipher 21 = .ok (.iconst 4, 1) := by decide +kernel
theorem dd_C_encipher_22 : decode cc_C_encipher 22 = .ok (.invokestatic 13, 3) := by decide +kernel
theorem dd_C_encipher_25 : decode cc_C_encipher 25 = .ok (.aload_n 3, 1) := by decide +kernel
theorem dd_C_encipher_26 : decode cc_C_encipher 26 = .ok (.iconst 1, 1) := by decide +kernel
theorem dd_C_encipher_27 : decode cc_C_encipher 27 = .ok (.iaload, 1) := by decide +kernel
theorem dd_C_encipher_28 : decode cc_C_encipher 28 = .ok (.ixor, 1) := by decide +kernel
theorem dd_C_encipher_29 : decode cc_C_encipher 29 = .ok (.istore 5, 2) := by decide +kernel
theorem dd_C_encipher_31 : decode cc_C_encipher 31 = .ok (.aload_n 1, 1) := by decide +kernel
theorem dd_C_encipher_32 : decode cc_C_encipher 32 = .ok (.iload_n 2, 1) := by decide +kernel
theorem dd_C_encipher_33 : decode cc_C_encipher 33 = .ok (.bipush 8, 2) := by decide +kernel
theorem dd_C_encipher_35 : decode cc_C_encipher 35 = .ok (.iadd, 1) := by decide +kernel
theorem dd_C_encipher_36 : decode cc_C_encipher 36 = .ok (.iconst 4, 1) := by decide +kernel
theorem dd_C_encipher_37 : decode cc_C_encipher 37 = .ok (.invokestatic 13, 3) := by decide +kernel
theorem dd_C_encipher_40 : decode cc_C_encipher 40 = .ok (.aload_n 3, 1) := by decide +kernel
theorem dd_C_encipher_41 : decode cc_C_encipher 41 = .ok (.iconst 2, 1) := by decide +kernel
theorem dd_C_encipher_42 : decode cc_C_encipher 42 = .ok (.iaload, 1) := by decide +kernel
theorem dd_C_encipher_43 : decode cc_C_encipher 43 = .ok (.ixor, 1) := by decide +kernel
theorem dd_C_encipher_44 : decode cc_C_encipher 44 = .ok (.istore 6, 2) := by decide +kernel
theorem dd_C_encipher_46 : decode cc_C_encipher 46 = .ok (.aload_n 1, 1) := by decide +kernel
theorem dd_C_encipher_47 : decode cc_C_encipher 47 = .ok (.iload_n 2, 1) := by decide +kernel
theorem dd_C_encipher_48 : decode cc_C_encipher 48 = .ok (.bipush 12, 2) := by decide +kernel
theorem dd_C_encipher_50 : decode cc_C_encipher 50 = .ok (.iadd, 1) := by decide +kernel
theorem dd_C_encipher_51 : decode cc_C_encipher 51 = .ok (.iconst 4, 1) := by decide +kernel
theorem dd_C_encipher_52 : decode cc_C_encipher 52 = .ok (.invokestatic 13, 3) := by decide +kernel
theorem dd_C_encipher_55 : decode cc_C_encipher 55 = .ok (.aload_n 3, 1) := by decide +kernel
theorem dd_C_encipher_56 : decode cc_C_encipher 56 = .ok (.iconst 3, 1) := by decide +kernel
theorem dd_C_encipher_57 : decode cc_C_encipher 57 = .ok (.iaload, 1) := by decide +kernel
theorem dd_C_encipher_58 : decode cc_C_encipher 58 = .ok (.ixor, 1) := by decide +kernel
theorem dd_C_encipher_59 : decode cc_C_encipher 59 = .ok (.istore 7, 2) := by decide +kernel
theorem dd_C_encipher_61 : decode cc_C_encipher 61 = .ok (.iconst 4, 1) := by decide +kernel
theorem dd_C_encipher_62 : decode cc_C_encipher 62 = .ok (.istore 8, 2) := by decide +kernel
theorem dd_C_encipher_64 : decode cc_C_encipher 64 = .ok (.iload 8, 2) := by decide +kernel
theorem dd_C_encipher_66 : decode cc_C_encipher 66 = .ok (.bipush 40, 2) := by decide +kernel
theorem dd_C_encipher_68 : decode cc_C_encipher 68 = .ok (.if_icmp .ge 147, 3) := by decide +kernel
theorem dd_C_encipher_71 : decode cc_C_encipher 71 = .ok (.getstatic 19, 3) := by decide +kernel
theorem dd_C_encipher_74 : decode cc_C_encipher 74 = .ok (.iload 4, 2) := by decide +kernel
theorem dd_C_encipher_76 : decode cc_C_encipher 76 = .ok (.iload 5, 2) := by decide +kernel
theorem dd_C_encipher_78 : decode cc_C_encipher 78 = .ok (.iload 6, 2) := by decide +kernel
theorem dd_C_encipher_80 : decode cc_C_encipher 80 = .ok (.iload 7, 2) := by decide +kernel
theorem dd_C_encipher_82 : decode cc_C_encipher 82 = .ok (.invokestatic 22, 3) := by decide +kernel
theorem dd_C_encipher_85 : decode cc_C_encipher 85 = .ok (.istore 9, 2) := by decide +kernel
theorem dd_C_encipher_87 : decode cc_C_encipher 87 = .ok (.getstatic 19, 3) := by decide +kernel
theorem dd_C_encipher_90 : decode cc_C_encipher 90 = .ok (.iload 5, 2) := by decide +kernel
theorem dd_C_encipher_92 : decode cc_C_encipher 92 = .ok (.iload 6, 2) := by decide +kernel
theorem dd_C_encipher_94 : decode cc_C_encipher 94 = .ok (.iload 7, 2) := by decide +kernel
theorem dd_C_encipher_96 : decode cc_C_encipher 96 = .ok (.iload 4, 2) := by decide +kernel
theorem dd_C_encipher_98 : decode cc_C_encipher 98 = .ok (.invokestatic 22, 3) := by decide +kernel
theorem dd_C_encipher_101 : decode cc_C_encipher 101 = .ok (.istore 10, 2) := by decide +kernel
theorem dd_C_encipher_103 : decode cc_C_encipher 103 = .ok (.getstatic 19, 3) := by decide +kernel
theorem dd_C_encipher_106 : decode cc_C_encipher 106 = .ok (.iload 6, 2) := by decide +kernel
theorem dd_C_encipher_108 : decode cc_C_encipher 108 = .ok (.iload 7, 2) := by decide +kernel
theorem dd_C_encipher_110 : decode cc_C_encipher 110 = .ok (.iload 4, 2) := by decide +kernel
theorem dd_C_encipher_112 : decode cc_C_encipher 112 = .ok (.iload 5, 2) := by decide +kernel
theorem dd_C_encipher_114 : decode cc_C_encipher 114 = .ok (.invokestatic 22, 3) := by decide +kernel
theorem dd_C_encipher_117 : decode cc_C_encipher 117 = .ok (.istore 11, 2) := by decide +kernel
theorem dd_C_encipher_119 : decode cc_C_encipher 119 = .ok (.getstatic 19, 3) := by decide +kernel
theorem dd_C_encipher_122 : decode cc_C_encipher 122 = .ok (.iload 7, 2) := by decide +kernel
theorem dd_C_encipher_124 : decode cc_C_encipher 124 = .ok (.iload 4, 2) := by decide +kernel
theorem dd_C_encipher_126 : decode cc_C_encipher 126 = .ok (.iload 5, 2) := by decide +kernel
theorem dd_C_encipher_128 : decode cc_C_encipher 128 = .ok (.iload 6, 2) := by decide +kernel
theorem dd_C_encipher_130 : decode cc_C_encipher 130 = .ok (.invokestatic 22, 3) := by decide +kernel
theorem dd_C_encipher_133 : decode cc_C_encipher 133 = .ok (.istore 12, 2) := by decide +kernel
theorem dd_C_encipher_135 : decode cc_C_encipher 135 = .ok (.iload 9, 2) := by decide +kernel
theorem dd_C_encipher_137 : decode cc_C_encipher 137 = .ok (.iload 9, 2) := by decide +kernel
theorem dd_C_encipher_139 : decode cc_C_encipher 139 = .ok (.invokestatic 26, 3) := by decide +kernel
theorem dd_C_encipher_142 : decode cc_C_encipher 142 = .ok (.invokestatic 30, 3) := by decide +kernel
theorem dd_C_encipher_145 : decode cc_C_encipher 145 = .ok (.aload_n 3, 1) := by decide +kernel
theorem dd_C_encipher_146 : decode cc_C_encipher 146 = .ok (.iload 8, 2) := by decide +kernel
theorem dd_C_encipher_148 : decode cc_C_encipher 148 = .ok (.iaload, 1) := by decide +kernel
theorem dd_C_encipher_149 : decode cc_C_encipher 149 = .ok (.ixor, 1) := by decide +kernel
theorem dd_C_encipher_150 : decode cc_C_encipher 150 = .ok (.istore 4, 2) := by decide +kernel
theorem dd_C_encipher_152 : decode cc_C_encipher 152 = .ok (.iload 10, 2) := by decide +kernel
theorem dd_C_encipher_154 : decode cc_C_encipher 154 = .ok (.iload 10, 2) := by decide +kernel
theorem dd_C_encipher_156 : decode cc_C_encipher 156 = .ok (.invokestatic 26, 3) := by decide +kernel
theorem dd_C_encipher_159 : decode cc_C_encipher 159 = .ok (.invokestatic 30, 3) := by decide +kernel
theorem dd_C_encipher_162 : decode cc_C_encipher 162 = .ok (.aload_n 3, 1) := by decide +kernel
theorem dd_C_encipher_163 : decode cc_C_encipher 163 = .ok (.iload 8, 2) := by decide +kernel
theorem dd_C_encipher_165 : decode cc_C_encipher 165 = .ok (.iconst 1, 1) := by decide +kernel
theorem dd_C_encipher_166 : decode cc_C_encipher 166 = .ok (.iadd, 1) := by decide +kernel
theorem dd_C_encipher_167 : decode cc_C_encipher 167 = .ok (.iaload, 1) := by decide +kernel
theorem dd_C_encipher_168 : decode cc_C_encipher 168 = .ok (.ixor, 1) := by decide +kernel
theorem dd_C_encipher_169 : decode cc_C_encipher 169 = .ok (.istore 5, 2) := by decide +kernel
theorem dd_C_encipher_171 : decode cc_C_encipher 171 = .ok (.iload 11, 2) := by decide +kernel
theorem dd_C_encipher_173 : decode cc_C_encipher 173 = .ok (.iload 11, 2) := by decide +kernel
theorem dd_C_encipher_175 : decode cc_C_encipher 175 = .ok (.invokestatic 26, 3) := by decide +kernel
theorem dd_C_encipher_178 : decode cc_C_encipher 178 = .ok (.invokestatic 30, 3) := by decide +kernel
theorem dd_C_encipher_181 : decode cc_C_encipher 181 = .ok (.aload_n 3, 1) := by decide +kernel
theorem dd_C_encipher_182 : decode cc_C_encipher 182 = .ok (.iload 8, 2) := by decide +kernel
theorem dd_C_encipher_184 : decode cc_C_encipher 184 = .ok (.iconst 2, 1) := by decide +kernel
theorem dd_C_encipher_185 : decode cc_C_encipher 185 = .ok (.iadd, 1) := by decide +kernel
theorem dd_C_encipher_186 : decode cc_C_encipher 186 = .ok (.iaload, 1) := by decide +kernel
theorem dd_C_encipher_187 : decode cc_C_encipher 187 = .ok (.ixor, 1) := by decide +kernel
theorem dd_C_encipher_188 : decode cc_C_encipher 188 = .ok (.istore 6, 2) := by decide +kernel
theorem dd_C_encipher_190 : decode cc_C_encipher 190 = .ok (.iload 12, 2) := by decide +kernel
theorem dd_C_encipher_192 : decode cc_C_encipher 192 = .ok (.iload 12, 2) := by decide +kernel
theorem dd_C_encipher_194 : decode cc_C_encipher 194 = .ok (.invokestatic 26, 3) := by decide +kernel
theorem dd_C_encipher_197 : decode cc_C_encipher 197 = .ok (.invokestatic 30, 3) := by decide +kernel
theorem dd_C_encipher_200 : decode cc_C_encipher 200 = .ok (.aload_n 3, 1) := by decide +kernel
theorem dd_C_encipher_201 : decode cc_C_encipher 201 = .ok (.iload 8, 2) := by decide +kernel
theorem dd_C_encipher_203 : decode cc_C_encipher 203 = .ok (.iconst 3, 1) := by decide +kernel
theorem dd_C_encipher_204 : decode cc_C_encipher 204 = .ok (.iadd, 1) := by decide +kernel
theorem dd_C_encipher_205 : decode cc_C_encipher 205 = .ok (.iaload, 1) := by decide +kernel
theorem dd_C_encipher_206 : decode cc_C_encipher 206 = .ok (.ixor, 1) := by decide +kernel
theorem dd_C_encipher_207 : decode cc_C_encipher 207 = .ok (.istore 7, 2) := by decide +kernel
theorem dd_C_encipher_209 : decode cc_C_encipher 209 = .ok (.iinc 8 4, 3) := by decide +kernel
theorem dd_C_encipher_212 : decode cc_C_encipher 212 = .ok (.goto (-148), 3) := by decide +kernel
theorem dd_C_encipher_215 : decode cc_C_encipher 215 = .ok (.bipush 40, 2) := by decide +kernel
theorem dd_C_encipher_217 : decode cc_C_encipher 217 = .ok (.istore 8, 2) := by decide +kernel
theorem dd_C_encipher_219 : decode cc_C_encipher 219 = .ok (.aload_n 1, 1) := by decide +kernel
theorem dd_C_encipher_220 : decode cc_C_encipher 220 = .ok (.iload_n 2, 1) := by decide +kernel
theorem dd_C_encipher_221 : decode cc_C_encipher 221 = .ok (.getstatic 19, 3) := by decide +kernel
theorem dd_C_encipher_224 : decode cc_C_encipher 224 = .ok (.iload 4, 2) := by decide +kernel
theorem dd_C_encipher_226 : decode cc_C_encipher 226 = .ok (.iload 5, 2) := by decide +kernel
theorem dd_C_encipher_228 : decode cc_C_encipher 228 = .ok (.iload 6, 2) := by decide +kernel
theorem dd_C_encipher_230 : decode cc_C_encipher 230 = .ok (.iload 7, 2) := by decide +kernel
theorem dd_C_encipher_232 : decode cc_C_encipher 232 = .ok (.invokestatic 22, 3) := by decide +kernel
theorem dd_C_encipher_235 : decode cc_C_encipher 235 = .ok (.aload_n 3, 1) := by decide +kernel
theorem dd_C_encipher_236 : decode cc_C_encipher 236 = .ok (.iload 8, 2) := by decide +kernel
theorem dd_C_encipher_238 : decode cc_C_encipher 238 = .ok (.iaload, 1) := by decide +kernel
theorem dd_C_encipher_239 : decode cc_C_encipher 239 = .ok (.ixor, 1) := by decide +kernel
theorem dd_C_encipher_240 : decode cc_C_encipher 240 = .ok (.iconst 4, 1) := by decide +kernel
theorem dd_C_encipher_241 : decode cc_C_encipher 241 = .ok (.invokestatic 34, 3) := by decide +kernel
theorem dd_C_encipher_244 : decode cc_C_encipher 244 = .ok (.aload_n 1, 1) := by decide +kernel
theorem dd_C_encipher_245 : decode cc_C_encipher 245 = .ok (.iload_n 2, 1) := by decide +kernel
theorem dd_C_encipher_246 : decode cc_C_encipher 246 = .ok (.iconst 4, 1) := by decide +kernel
theorem dd_C_encipher_247 : decode cc_C_encipher 247 = .ok (.iadd, 1) := by decide +kernel
theorem dd_C_encipher_248 : decode cc_C_encipher 248 = .ok (.getstatic 19, 3) := by decide +kernel
theorem dd_C_encipher_251 : decode cc_C_encipher 251 = .ok (.iload 5, 2) := by decide +kernel
theorem dd_C_encipher_253 : decode cc_C_encipher 253 = .ok (.iload 6, 2) := by decide +kernel
theorem dd_C_encipher_255 : decode cc_C_encipher 255 = .ok (.iload 7, 2) := by decide +kernel
theorem dd_C_encipher_257 : decode cc_C_encipher 257 = .ok (.iload 4, 2) := by decide +kernel
theorem dd_C_encipher_259 : decode cc_C_encipher 259 = .ok (.invokestatic 22, 3) := by decide +kernel
theorem dd_C_encipher_262 : decode cc_C_encipher 262 = .ok (.aload_n 3, 1) := by decide +kernel
theorem dd_C_encipher_263 : decode cc_C_encipher 263 = .ok (.iload 8, 2) := by decide +kernel
theorem dd_C_encipher_265 : decode cc_C_encipher 265 = .ok (.iconst 1, 1) := by decide +kernel
theorem dd_C_encipher_266 : decode cc_C_encipher 266 = .ok (.iadd, 1) := by decide +kernel
theorem dd_C_encipher_267 : decode cc_C_encipher 267 = .ok (.iaload, 1) := by decide +kernel
theorem dd_C_encipher_268 : decode cc_C_encipher 268 = .ok (.ixor, 1) := by decide +kernel
theorem dd_C_encipher_269 : decode cc_C_encipher 269 = .ok (.iconst 4, 1) := by decide +kernel
theorem dd_C_encipher_270 : decode cc_C_encipher 270 = .ok (.invokestatic 34, 3) := by decide +kernel
theorem dd_C_encipher_273 : decode cc_C_encipher 273 = .ok (.aload_n 1, 1) := by decide +kernel
theorem dd_C_encipher_274 : decode cc_C_encipher 274 = .ok (.iload_n 2, 1) := by decide +kernel
theorem dd_C_encipher_275 : decode cc_C_encipher 275 = .ok (.bipush 8, 2) := by decide +kernel
theorem dd_C_encipher_277 : decode cc_C_encipher 277 = .ok (.iadd, 1) := by decide +kernel
theorem dd_C_encipher_278 : decode cc_C_encipher 278 = .ok (.getstatic 19, 3) := by decide +kernel
theorem dd_C_encipher_281 : decode cc_C_encipher 281 = .ok (.iload 6, 2) := by decide +kernel
theorem dd_C_encipher_283 : decode cc_C_encipher 283 = .ok (.iload 7, 2) := by decide +kernel
theorem dd_C_encipher_285 : decode cc_C_encipher 285 = .ok (.iload 4, 2) := by decide +kernel
theorem dd_C_encipher_287 : decode cc_C_encipher 287 = .ok (.iload 5, 2) := by decide +kernel
theorem dd_C_encipher_289 : decode cc_C_encipher 289 = .ok (.invokestatic 22, 3) := by decide +kernel
theorem dd_C_encipher_292 : decode cc_C_encipher 292 = .ok (.aload_n 3, 1) := by decide +kernel
theorem dd_C_encipher_293 : decode cc_C_encipher 293 = .ok (.iload 8, 2) := by decide +kernel
theorem dd_C_encipher_295 : decode cc_C_encipher 295 = .ok (.iconst 2, 1) := by decide +kernel
theorem dd_C_encipher_296 : decode cc_C_encipher 296 = .ok (.iadd, 1) := by decide +kernel
theorem dd_C_encipher_297 : decode cc_C_encipher 297 = .ok (.iaload, 1) := by decide +kernel
theorem dd_C_encipher_298 : decode cc_C_encipher 298 = .ok (.ixor, 1) := by decide +kernel
theorem dd_C_encipher_299 : decode cc_C_encipher 299 = .ok (.iconst 4, 1) := by decide +kernel
theorem dd_C_encipher_300 : decode cc_C_encipher 300 = .ok (.invokestatic 34, 3) := by decide +kernel
theorem dd_C_encipher_303 : decode cc_C_encipher 303 = .ok (.aload_n 1, 1) := by decide +kernel
theorem dd_C_encipher_304 : decode cc_C_encipher 304 = .ok (.iload_n 2, 1) := by decide +kernel
theorem dd_C_encipher_305 : decode cc_C_encipher 305 = .ok (.bipush 12, 2) := by decide +kernel
theorem dd_C_encipher_307 : decode cc_C_encipher 307 = .ok (.iadd, 1) := by decide +kernel
theorem dd_C_encipher_308 : decode cc_C_encipher 308 = .ok (.getstatic 19, 3) := by decide +kernel
theorem dd_C_encipher_311 : decode cc_C_encipher 311 = .ok (.iload 7, 2) := by decide +kernel
theorem dd_C_encipher_313 : decode cc_C_encipher 313 = .ok (.iload 4, 2) := by decide +kernel
theorem dd_C_encipher_315 : decode cc_C_encipher 315 = .ok (.iload 5, 2) := by decide +kernel
theorem dd_C_encipher_317 : decode cc_C_encipher 317 = .ok (.iload 6, 2) := by decide +kernel
theorem dd_C_encipher_319 : decode cc_C_encipher 319 = .ok (.invokestatic 22, 3) := by decide +kernel
theorem dd_C_encipher_322 : decode cc_C_encipher 322 = .ok (.aload_n 3, 1) := by decide +kernel
theorem dd_C_encipher_323 : decode cc_C_encipher 323 = .ok (.iload 8, 2) := by decide +kernel
theorem dd_C_encipher_325 : decode cc_C_encipher 325 = .ok (.iconst 3, 1) := by decide +kernel
theorem dd_C_encipher_326 : decode cc_C_encipher 326 = .ok (.iadd, 1) := by decide +kernel
theorem dd_C_encipher_327 : decode cc_C_encipher 327 = .ok (.iaload, 1) := by decide +kernel
theorem dd_C_encipher_328 : decode cc_C_encipher 328 = .ok (.ixor, 1) := by decide +kernel
theorem dd_C_encipher_329 : decode cc_C_encipher 329 = .ok (.iconst 4, 1) := by decide +kernel
theorem dd_C_encipher_330 : decode cc_C_encipher 330 = .ok (.invokestatic 34, 3) := by decide +kernel
theorem dd_C_encipher_333 : decode cc_C_encipher 333 = .ok (.return_, 1) := by decide +kernel
theorem dd_C_decipher_0 : decode cc_C_decipher 0 = .ok (.aload_n 0, 1) := by decide +kernel
theorem dd_C_decipher_1 : decode cc_C_decipher 1 = .ok (.getfield 9, 3) := by decide +kernel
theorem dd_C_decipher_4 : decode cc_C_decipher 4 = .ok (.astore_n 3, 1) := by decide +kernel
theorem dd_C_decipher_5 : decode cc_C_decipher 5 = .ok (.bipush 40, 2) := by decide +kernel
theorem dd_C_decipher_7 : decode cc_C_decipher 7 = .ok (.istore 4, 2) := by decide +kernel
theorem dd_C_decipher_9 : decode cc_C_decipher 9 = .ok (.aload_n 1, 1) := by decide +kernel
theorem dd_C_decipher_10 : decode cc_C_decipher 10 = .ok (.iload_n 2, 1) := by decide +kernel
theorem dd_C_decipher_11 : decode cc_C_decipher 11 = .ok (.iconst 4, 1) := by decide +kernel
theorem dd_C_decipher_12 : decode cc_C_decipher 12 = .ok (.invokestatic 13, 3) := by decide +kernel
theorem dd_C_decipher_15 : decode cc_C_decipher 15 = .ok (.aload_n 3, 1) := by decide +kernel
theorem dd_C_decipher_16 : decode cc_C_decipher 16 = .ok (.iload 4, 2) := by decide +kernel
theorem dd_C_decipher_18 : decode cc_C_decipher 18 = .ok (.iaload, 1) := by decide +kernel
theorem dd_C_decipher_19 : decode cc_C_decipher 19 = .ok (.ixor, 1) := by decide +kernel
theorem dd_C_decipher_20 : decode cc_C_decipher 20 = .ok (.istore 5, 2) := by decide +kernel
theorem dd_C_decipher_22 : decode cc_C_decipher 22 = .ok (.aload_n 1, 1) := by decide +kernel
theorem dd_C_decipher_23 : decode cc_C_decipher 23 = .ok (.iload_n 2, 1) := by decide +kernel
theorem dd_C_decipher_24 : decode cc_C_decipher 24 = .ok (.iconst 4, 1) := by decide +kernel
theorem dd_C_decipher_25 : decode cc_C_decipher 25 = .ok (.iadd, 1) := by decide +kernel
theorem dd_C_decipher_26 : decode cc_C_decipher 26 = .ok (.iconst 4, 1) := by decide +kernel
theorem dd_C_decipher_27 : decode cc_C_decipher 27 = .ok (.invokestatic 13, 3) := by decide +kernel
theorem dd_C_decipher_30 : decode cc_C_decipher 30 = .ok (.aload_n 3, 1) := by decide +kernel
theorem dd_C_decipher_31 : decode cc_C_decipher 31 = .ok (.iload 4, 2) := by decide +kernel
theorem dd_C_decipher_33 : decode cc_C_decipher 33 = .ok (.iconst 1, 1) := by decide +kernel
theorem dd_C_decipher_34 : decode cc_C_decipher 34 = .ok (.iadd, 1) := by decide +kernel
theorem dd_C_decipher_35 : decode cc_C_decipher 35 = .ok (.iaload, 1) := by decide +kernel
theorem dd_C_decipher_36 : decode cc_C_decipher 36 = .ok (.ixor, 1) := by decide +kernel
theorem dd_C_decipher_37 : decode cc_C_decipher 37 = .ok (.istore 6, 2) := by decide +kernel
theorem dd_C_decipher_39 : decode cc_C_decipher 39 = .ok (.aload_n 1, 1) := by decide +kernel
theorem dd_C_decipher_40 : decode cc_C_decipher 40 = .ok (.iload_n 2, 1) := by decide +kernel
theorem dd_C_decipher_41 : decode cc_C_decipher 41 = .ok (.bipush 8, 2) := by decide +kernel
theorem dd_C_decipher_43 : decode cc_C_decipher 43 = .ok (.iadd, 1) := by decide +kernel
theorem dd_C_decipher_44 : decode cc_C_decipher 44 = .ok (.iconst 4, 1) := by decide +kernel
theorem dd_C_decipher_45 : decode cc_C_decipher 45 = .ok (.invokestatic 13, 3) := by decide +kernel
theorem dd_C_decipher_48 : decode cc_C_decipher 48 = .ok (.aload_n 3, 1) := by decide +kernel
theorem dd_C_decipher_49 : decode cc_C_decipher 49 = .ok (.iload 4, 2) := by decide +kernel
theorem dd_C_decipher_51 : decode cc_C_decipher 51 = .ok (.iconst 2, 1) := by decide +kernel
theorem dd_C_decipher_52 : decode cc_C_decipher 52 = .ok (.iadd, 1) := by decide +kernel
theorem dd_C_decipher_53 : decode cc_C_decipher 53 = .ok (.iaload, 1) := by decide +kernel
theorem dd_C_decipher_54 : decode cc_C_decipher 54 = .ok (.ixor, 1) := by decide +kernel
theorem dd_C_decipher_55 : decode cc_C_decipher 55 = .ok (.istore 7, 2) := by decide +kernel
theorem dd_C_decipher_57 : decode cc_C_decipher 57 = .ok (.aload_n 1, 1) := by decide +kernel
theorem dd_C_decipher_58 : decode cc_C_decipher 58 = .ok (.iload_n 2, 1) := by decide +kernel
theorem dd_C_decipher_59 : decode cc_C_decipher 59 = .ok (.bipush 12, 2) := by decide +kernel
theorem dd_C_decipher_61 : decode cc_C_decipher 61 = .ok (.iadd, 1) := by decide +kernel
theorem dd_C_decipher_62 : decode cc_C_decipher 62 = .ok (.iconst 4, 1) := by decide +kernel
theorem dd_C_decipher_63 : decode cc_C_decipher 63 = .ok (.invokestatic 13, 3) := by decide +kernel
theorem dd_C_decipher_66 : decode cc_C_decipher 66 = .ok (.aload_n 3, 1) := by decide +kernel
theorem dd_C_decipher_67 : decode cc_C_decipher 67 = .ok (.iload 4, 2) := by decide +kernel
theorem dd_C_decipher_69 : decode cc_C_decipher 69 = .ok (.iconst 3, 1) := by decide +kernel
theorem dd_C_decipher_70 : decode cc_C_decipher 70 = .ok (.iadd, 1) := by decide +kernel
theorem dd_C_decipher_71 : decode cc_C_decipher 71 = .ok (.iaload, 1) := by decide +kernel
theorem dd_C_decipher_72 : decode cc_C_decipher 72 = .ok (.ixor, 1) := by decide +kernel
theorem dd_C_decipher_73 : decode cc_C_decipher 73 = .ok (.istore 8, 2) := by decide +kernel
theorem dd_C_decipher_75 : decode cc_C_decipher 75 = .ok (.iload 4, 2) := by decide +kernel
theorem dd_C_decipher_77 : decode cc_C_decipher 77 = .ok (.iconst 4, 1) := by decide +kernel
theorem dd_C_decipher_78 : decode cc_C_decipher 78 = .ok (.isub, 1) := by decide +kernel
theorem dd_C_decipher_79 : decode cc_C_decipher 79 = .ok (.istore 9, 2) := by decide +kernel
theorem dd_C_decipher_81 : decode cc_C_decipher 81 = .ok (.iload 9, 2) := by decide +kernel
theorem dd_C_decipher_83 : decode cc_C_decipher 83 = .ok (.ifCond .le 127, 3) := by decide +kernel
theorem dd_C_decipher_86 : decode cc_C_decipher 86 = .ok (.getstatic 38, 3) := by decide +kernel
theorem dd_C_decipher_89 : decode cc_C_decipher 89 = .ok (.iload 5, 2) := by decide +kernel
theorem dd_C_decipher_91 : decode cc_C_decipher 91 = .ok (.iload 8, 2) := by decide +kernel
theorem dd_C_decipher_93 : decode cc_C_decipher 93 = .ok (.iload 7, 2) := by decide +kernel
theorem dd_C_decipher_95 : decode cc_C_decipher 95 = .ok (.iload 6, 2) := by decide +kernel
theorem dd_C_decipher_97 : decode cc_C_decipher 97 = .ok (.invokestatic 22, 3) := by decide +kernel
theorem dd_C_decipher_100 : decode cc_C_decipher 100 = .ok (.istore 10, 2) := by decide +kernel
theorem dd_C_decipher_102 : decode cc_C_decipher 102 = .ok (.getstatic 38, 3) := by decide +kernel
theorem dd_C_decipher_105 : decode cc_C_decipher 105 = .ok (.iload 6, 2) := by decide +kernel
theorem dd_C_decipher_107 : decode cc_C_decipher 107 = .ok (.iload 5, 2) := by decide +kernel
theorem dd_C_decipher_109 : decode cc_C_decipher 109 = .ok (.iload 8, 2) := by decide +kernel
theorem dd_C_decipher_111 : decode cc_C_decipher 111 = .ok (.iload 7, 2) := by decide +kernel
theorem dd_C_decipher_113 : decode cc_C_decipher 113 = .ok (.invokestatic 22, 3) := by decide +kernel
theorem dd_C_decipher_116 : decode cc_C_decipher 116 = .ok (.istore 11, 2) := by decide +kernel
theorem dd_C_decipher_118 : decode cc_C_decipher 118 = .ok (.getstatic 38, 3) := by decide +kernel
theorem dd_C_decipher_121 : decode cc_C_decipher 121 = .ok (.iload 7, 2) := by decide +kernel
theorem dd_C_decipher_123 : decode cc_C_decipher 123 = .ok (.iload 6, 2) := by decide +kernel
theorem dd_C_decipher_125 : decode cc_C_decipher 125 = .ok (.iload 5, 2) := by decide +kernel
theorem dd_C_decipher_127 : decode cc_C_decipher 127 = .ok (.iload 8, 2) := by decide +kernel
theorem dd_C_decipher_129 : decode cc_C_decipher 129 = .ok (.invokestatic 22, 3) := by decide +kernel
theorem dd_C_decipher_132 : decode cc_C_decipher 132 = .ok (.istore 12, 2) := by decide +kernel
theorem dd_C_decipher_134 : decode cc_C_decipher 134 = .ok (.getstatic 38, 3) := by decide +kernel
theorem dd_C_decipher_137 : decode cc_C_decipher 137 = .ok (.iload 8, 2) := by decide +kernel
theorem dd_C_decipher_139 : decode cc_C_decipher 139 = .ok (.iload 7, 2) := by decide +kernel
theorem dd_C_decipher_141 : decode cc_C_decipher 141 = .ok (.iload 6, 2) := by decide +kernel
theorem dd_C_decipher_143 : decode cc_C_decipher 143 = .ok (.iload 5, 2) := by decide +kernel
theorem dd_C_decipher_145 : decode cc_C_decipher 145 = .ok (.invokestatic 22, 3) := by decide +kernel
theorem dd_C_decipher_148 : decode cc_C_decipher 148 = .ok (.istore 13, 2) := by decide +kernel
theorem dd_C_decipher_150 : decode cc_C_decipher 150 = .ok (.iload 10, 2) := by decide +kernel
theorem dd_C_decipher_152 : decode cc_C_decipher 152 = .ok (.aload_n 3, 1) := by decide +kernel
theorem dd_C_decipher_153 : decode cc_C_decipher 153 = .ok (.iload 9, 2) := by decide +kernel
theorem dd_C_decipher_155 : decode cc_C_decipher 155 = .ok (.iaload, 1) := by decide +kernel
theorem dd_C_decipher_156 : decode cc_C_decipher 156 = .ok (.ixor, 1) := by decide +kernel
theorem dd_C_decipher_157 : decode cc_C_decipher 157 = .ok (.invokestatic 41, 3) := by decide +kernel
theorem dd_C_decipher_160 : decode cc_C_decipher 160 = .ok (.istore 5, 2) := by decide +kernel
theorem dd_C_decipher_162 : decode cc_C_decipher 162 = .ok (.iload 11, 2) := by decide +kernel
theorem dd_C_decipher_164 : decode cc_C_decipher 164 = .ok (.aload_n 3, 1) := by decide +kernel
theorem dd_C_decipher_165 : decode cc_C_decipher 165 = .ok (.iload 9, 2) := by decide +kernel
theorem dd_C_decipher_167 : decode cc_C_decipher 167 = .ok (.iconst 1, 1) := by decide +kernel
theorem dd_C_decipher_168 : decode cc_C_decipher 168 = .ok (.iadd, 1) := by decide +kernel
theorem dd_C_decipher_169 : decode cc_C_decipher 169 = .ok (.iaload, 1) := by decide +kernel
theorem dd_C_decipher_170 : decode cc_C_decipher 170 = .ok (.ixor, 1) := by decide +kernel
theorem dd_C_decipher_171 : decode cc_C_decipher 171 = .ok (.invokestatic 41, 3) := by decide +kernel
theorem dd_C_decipher_174 : decode cc_C_decipher 174 = .ok (.istore 6, 2) := by decide +kernel
theorem dd_C_decipher_176 : decode cc_C_decipher 176 = .ok (.iload 12, 2) := by decide +kernel
theorem dd_C_decipher_178 : decode cc_C_decipher 178 = .ok (.aload_n 3, 1) := by decide +kernel
theorem dd_C_decipher_179 : decode cc_C_decipher 179 = .ok (.iload 9, 2) := by decide +kernel
theorem dd_C_decipher_181 : decode cc_C_decipher 181 = .ok (.iconst 2, 1) := by decide +kernel
theorem dd_C_decipher_182 : decode cc_C_decipher 182 = .ok (.iadd, 1) := by decide +kernel
theorem dd_C_decipher_183 : decode cc_C_decipher 183 = .ok (.iaload, 1) := by decide +kernel
theorem dd_C_decipher_184 : decode cc_C_decipher 184 = .ok (.ixor, 1) := by decide +kernel
theorem dd_C_decipher_185 : decode cc_C_decipher 185 = .ok (.invokestatic 41, 3) := by decide +kernel
theorem dd_C_decipher_188 : decode cc_C_decipher 188 = .ok (.istore 7, 2) := by decide +kernel
theorem dd_C_decipher_190 : decode cc_C_decipher 190 = .ok (.iload 13, 2) := by decide +kernel
theorem dd_C_decipher_192 : decode cc_C_decipher 192 = .ok (.aload_n 3, 1) := by decide +kernel
theorem dd_C_decipher_193 : decode cc_C_decipher 193 = .ok (.iload 9, 2) := by decide +kernel
theorem dd_C_decipher_195 : decode cc_C_decipher 195 = .ok (.iconst 3, 1) := by decide +kernel
theorem dd_C_decipher_196 : decode cc_C_decipher 196 = .ok (.iadd, 1) := by decide +kernel
theorem dd_C_decipher_197 : decode cc_C_decipher 197 = .ok (.iaload, 1) := by decide +kernel
theorem dd_C_decipher_198 : decode cc_C_decipher 198 = .ok (.ixor, 1) := by decide +kernel
theorem dd_C_decipher_199 : decode cc_C_decipher 199 = .ok (.invokestatic 41, 3) := by decide +kernel
theorem dd_C_decipher_202 : decode cc_C_decipher 202 = .ok (.istore 8, 2) := by decide +kernel
theorem dd_C_decipher_204 : decode cc_C_decipher 204 = .ok (.iinc 9 (-4), 3) := by decide +kernel
theorem dd_C_decipher_207 : decode cc_C_decipher 207 = .ok (.goto (-126), 3) := by decide +kernel
theorem dd_C_decipher_210 : decode cc_C_decipher 210 = .ok (.aload_n 1, 1) := by decide +kernel
theorem dd_C_decipher_211 : decode cc_C_decipher 211 = .ok (.iload_n 2, 1) := by decide +kernel
theorem dd_C_decipher_212 : decode cc_C_decipher 212 = .ok (.getstatic 38, 3) := by decide +kernel
theorem dd_C_decipher_215 : decode cc_C_decipher 215 = .ok (.iload 5, 2) := by decide +kernel
theorem dd_C_decipher_217 : decode cc_C_decipher 217 = .ok (.iload 8, 2) := by decide +kernel
theorem dd_C_decipher_219 : decode cc_C_decipher 219 = .ok (.iload 7, 2) := by decide +kernel
theorem dd_C_decipher_221 : decode cc_C_decipher 221 = .ok (.iload 6, 2) := by decide +kernel
theorem dd_C_decipher_223 : decode cc_C_decipher 223 = .ok (.invokestatic 22, 3) := by decide +kernel
theorem dd_C_decipher_226 : decode cc_C_decipher 226 = .ok (.aload_n 3, 1) := by decide +kernel
theorem dd_C_decipher_227 : decode cc_C_decipher 227 = .ok (.iconst 0, 1) := by decide +kernel
theorem dd_C_decipher_228 : decode cc_C_decipher 228 = .ok (.iaload, 1) := by decide +kernel
theorem dd_C_decipher_229 : decode cc_C_decipher 229 = .ok (.ixor, 1) := by decide +kernel
theorem dd_C_decipher_230 : decode cc_C_decipher 230 = .ok (.iconst 4, 1) := by decide +kernel
theorem dd_C_decipher_231 : decode cc_C_decipher 231 = .ok (.invokestatic 34, 3) := by decide +kernel
theorem dd_C_decipher_234 : decode cc_C_decipher 234 = .ok (.aload_n 1, 1) := by decide +kernel
theorem dd_C_decipher_235 : decode cc_C_decipher 235 = .ok (.iload_n 2, 1) := by decide +kernel
theorem dd_C_decipher_236 : decode cc_C_decipher 236 = .ok (.iconst 4, 1) := by decide +kernel
theorem dd_C_decipher_237 : decode cc_C_decipher 237 = .ok (.iadd, 1) := by decide +kernel
theorem dd_C_decipher_238 : decode cc_C_decipher 238 = .ok (.getstatic 38, 3) := by decide +kernel
theorem dd_C_decipher_241 : decode cc_C_decipher 241 = .ok (.iload 6, 2) := by decide +kernel
theorem dd_C_decipher_243 : decode cc_C_decipher 243 = .ok (.iload 5, 2) := by decide +kernel
theorem dd_C_decipher_245 : decode cc_C_decipher 245 = .ok (.iload 8, 2) := by decide +kernel
theorem dd_C_decipher_247 : decode cc_C_decipher 247 = .ok (.iload 7, 2) := by decide +kernel
theorem dd_C_decipher_249 : decode cc_C_decipher 249 = .ok (.invokestatic 22, 3) := by decide +kernel
theorem dd_C_decipher_252 : decode cc_C_decipher 252 = .ok (.aload_n 3, 1) := by decide +kernel
theorem dd_C_decipher_253 : decode cc_C_decipher 253 = .ok (.iconst 1, 1) := by decide +kernel
theorem dd_C_decipher_254 : decode cc_C_decipher 254 = .ok (.iaload, 1) := by decide +kernel
theorem dd_C_decipher_255 : decode cc_C_decipher 255 = .ok (.ixor, 1) := by decide +kernel
theorem dd_C_decipher_256 : decode cc_C_decipher 256 = .ok (.iconst 4, 1) := by decide +kernel
theorem dd_C_decipher_257 : decode cc_C_decipher 257 = .ok (.invokestatic 34, 3) := by decide +kernel
theorem dd_C_decipher_260 : decode cc_C_decipher 260 = .ok (.aload_n 1, 1) := by decide +kernel
theorem dd_C_decipher_261 : decode cc_C_decipher 261 = .ok (.iload_n 2, 1) := by decide +kernel
theorem dd_C_decipher_262 : decode cc_C_decipher 262 = .ok (.bipush 8, 2) := by decide +kernel
theorem dd_C_decipher_264 : decode cc_C_decipher 264 = .ok (.iadd, 1) := by decide +kernel
theorem dd_C_decipher_265 : decode cc_C_decipher 265 = .ok (.getstatic 38, 3) := by decide +kernel
theorem dd_C_decipher_268 : decode cc_C_decipher 268 = .ok (.iload 7, 2) := by decide +kernel
theorem dd_C_decipher_270 : decode cc_C_decipher 270 = .ok (.iload 6, 2) := by decide +kernel
theorem dd_C_decipher_272 : decode cc_C_decipher 272 = .ok (.iload 5, 2) := by decide +kernel
theorem dd_C_decipher_274 : decode cc_C_decipher 274 = .ok (.iload 8, 2) := by decide +kernel
theorem dd_C_decipher_276 : decode cc_C_decipher 276 = .ok (.invokestatic 22, 3) := by decide +kernel
theorem dd_C_decipher_279 : decode cc_C_decipher 279 = .ok (.aload_n 3, 1) := by decide +kernel
theorem dd_C_decipher_280 : decode cc_C_decipher 280 = .ok (.iconst 2, 1) := by decide +kernel
theorem dd_C_decipher_281 : decode cc_C_decipher 281 = .ok (.iaload, 1) := by decide +kernel
theorem dd_C_decipher_282 : decode cc_C_decipher 282 = .ok (.ixor, 1) := by decide +kernel
theorem dd_C_decipher_283 : decode cc_C_decipher 283 = .ok (.iconst 4, 1) := by decide +kernel
theorem dd_C_decipher_284 : decode cc_C_decipher 284 = .ok (.invokestatic 34, 3) := by decide +kernel
theorem dd_C_decipher_287 : decode cc_C_decipher 287 = .ok (.aload_n 1, 1) := by decide +kernel
theorem dd_C_decipher_288 : decode cc_C_decipher 288 = .ok (.iload_n 2, 1) := by decide +kernel
theorem dd_C_decipher_289 : decode cc_C_decipher 289 = .ok (.bipush 12, 2) := by decide +kernel
theorem dd_C_decipher_291 : decode cc_C_decipher 291 = .ok (.iadd, 1) := by decide +kernel
theorem dd_C_decipher_292 : decode cc_C_decipher 292 = .ok (.getstatic 38, 3) := by decide +kernel
theorem dd_C_decipher_295 : decode cc_C_decipher 295 = .ok (.iload 8, 2) := by decide +kernel
theorem dd_C_decipher_297 : decode cc_C_decipher 297 = .ok (.iload 7, 2) := by decide +kernel
theorem dd_C_decipher_299 : decode cc_C_decipher 299 = .ok (.iload 6, 2) := by decide +kernel
theorem dd_C_decipher_301 : decode cc_C_decipher 301 = .ok (.iload 5, 2) := by decide +kernel
theorem dd_C_decipher_303 : decode cc_C_decipher 303 = .ok (.invokestatic 22, 3) := by decide +kernel
theorem dd_C_decipher_306 : decode cc_C_decipher 306 = .ok (.aload_n 3, 1) := by decide +kernel
theorem dd_C_decipher_307 : decode cc_C_decipher 307 = .ok (.iconst 3, 1) := by decide +kernel
theorem dd_C_decipher_308 : decode cc_C_decipher 308 = .ok (.iaload, 1) := by decide +kernel
theorem dd_C_decipher_309 : decode cc_C_decipher 309 = .ok (.ixor, 1) := by decide +kernel
theorem dd_C_decipher_310 : decode cc_C_decipher 310 = .ok (.iconst 4, 1) := by decide +kernel
theorem dd_C_decipher_311 : decode cc_C_decipher 311 = .ok (.invokestatic 34, 3) := by decide +kernel
theorem dd_C_decipher_314 : decode cc_C_decipher 314 = .ok (.return_, 1) := by decide +kernel
