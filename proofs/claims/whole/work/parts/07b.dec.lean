theorem dd_W_received_0 : decode cc_W_received 0 = .ok (.iload_n 1, 1) := by decide +kernel
theorem dd_W_received_1 : decode cc_W_received 1 = .ok (.invokestatic 45, 3) := by decide +kernel
theorem dd_W_received_4 : decode cc_W_received 4 = .ok (.ifCond .eq 15, 3) := by decide +kernel
theorem dd_W_received_7 : decode cc_W_received 7 = .ok (.aload_n 0, 1) := by decide +kernel
theorem dd_W_received_8 : decode cc_W_received 8 = .ok (.iload_n 1, 1) := by decide +kernel
theorem dd_W_received_9 : decode cc_W_received 9 = .ok (.iload_n 2, 1) := by decide +kernel
theorem dd_W_received_10 : decode cc_W_received 10 = .ok (.invokevirtual 141, 3) := by decide +kernel
theorem dd_W_received_13 : decode cc_W_received 13 = .ok (.getfield 145, 3) := by decide +kernel
theorem dd_W_received_16 : decode cc_W_received 16 = .ok (.goto 4, 3) := by decide +kernel
theorem dd_W_received_19 : decode cc_W_received 19 = .ok (.iconst (-1), 1) := by decide +kernel
theorem dd_W_received_20 : decode cc_W_received 20 = .ok (.ireturn, 1) := by decide +kernel
theorem dd_W_payload_0 : decode cc_W_payload 0 = .ok (.iload_n 1, 1) := by decide +kernel
theorem dd_W_payload_1 : decode cc_W_payload 1 = .ok (.invokestatic 45, 3) := by decide +kernel
theorem dd_W_payload_4 : decode cc_W_payload 4 = .ok (.ifCond .eq 16, 3) := by decide +kernel
theorem dd_W_payload_7 : decode cc_W_payload 7 = .ok (.aload_n 0, 1) := by decide +kernel
theorem dd_W_payload_8 : decode cc_W_payload 8 = .ok (.iload_n 1, 1) := by decide +kernel
theorem dd_W_payload_9 : decode cc_W_payload 9 = .ok (.iload_n 2, 1) := by decide +kernel
theorem dd_W_payload_10 : decode cc_W_payload 10 = .ok (.invokevirtual 141, 3) := by decide +kernel
theorem dd_W_payload_13 : decode cc_W_payload 13 = .ok (.iload_n 3, 1) := by decide +kernel
theorem dd_W_payload_14 : decode cc_W_payload 14 = .ok (.invokevirtual 150, 3) := by decide +kernel
theorem dd_W_payload_17 : decode cc_W_payload 17 = .ok (.goto 6, 3) := by decide +kernel
theorem dd_W_payload_20 : decode cc_W_payload 20 = .ok (.ldc2_w 154, 3) := by decide +kernel
theorem dd_W_payload_23 : decode cc_W_payload 23 = .ok (.lreturn, 1) := by decide +kernel
theorem dd_W_tally_0 : decode cc_W_tally 0 = .ok (.iload_n 1, 1) := by decide +kernel
theorem dd_W_tally_1 : decode cc_W_tally 1 = .ok (.invokestatic 45, 3) := by decide +kernel
theorem dd_W_tally_4 : decode cc_W_tally 4 = .ok (.ifCond .ne 5, 3) := by decide +kernel
theorem dd_W_tally_7 : decode cc_W_tally 7 = .ok (.iconst (-1), 1) := by decide +kernel
theorem dd_W_tally_8 : decode cc_W_tally 8 = .ok (.ireturn, 1) := by decide +kernel
theorem dd_W_tally_9 : decode cc_W_tally 9 = .ok (.iload_n 2, 1) := by decide +kernel
theorem dd_W_tally_10 : decode cc_W_tally 10 = .ok (.tableswitch 73 0 3 #[30, 40, 50, 60], 30) := by decide +kernel
theorem dd_W_tally_40 : decode cc_W_tally 40 = .ok (.aload_n 0, 1) := by decide +kernel
theorem dd_W_tally_41 : decode cc_W_tally 41 = .ok (.getfield 18, 3) := by decide +kernel
theorem dd_W_tally_44 : decode cc_W_tally 44 = .ok (.iload_n 1, 1) := by decide +kernel
theorem dd_W_tally_45 : decode cc_W_tally 45 = .ok (.aaload, 1) := by decide +kernel
theorem dd_W_tally_46 : decode cc_W_tally 46 = .ok (.getfield 156, 3) := by decide +kernel
theorem dd_W_tally_49 : decode cc_W_tally 49 = .ok (.ireturn, 1) := by decide +kernel
theorem dd_W_tally_50 : decode cc_W_tally 50 = .ok (.aload_n 0, 1) := by decide +kernel
theorem dd_W_tally_51 : decode cc_W_tally 51 = .ok (.getfield 18, 3) := by decide +kernel
theorem dd_W_tally_54 : decode cc_W_tally 54 = .ok (.iload_n 1, 1) := by decide +kernel
theorem dd_W_tally_55 : decode cc_W_tally 55 = .ok (.aaload, 1) := by decide +kernel
theorem dd_W_tally_56 : decode cc_W_tally 56 = .ok (.getfield 159, 3) := by decide +kernel
theorem dd_W_tally_59 : decode cc_W_tally 59 = .ok (.ireturn, 1) := by decide +kernel
theorem dd_W_tally_60 : decode cc_W_tally 60 = .ok (.aload_n 0, 1) := by decide +kernel
theorem dd_W_tally_61 : decode cc_W_tally 61 = .ok (.getfield 18, 3) := by decide +kernel
theorem dd_W_tally_64 : decode cc_W_tally 64 = .ok (.iload_n 1, 1) := by decide +kernel
theorem dd_W_tally_65 : decode cc_W_tally 65 = .ok (.aaload, 1) := by decide +kernel
theorem dd_W_tally_66 : decode cc_W_tally 66 = .ok (.getfield 162, 3) := by decide +kernel
theorem dd_W_tally_69 : decode cc_W_tally 69 = .ok (.ireturn, 1) := by decide +kernel
theorem dd_W_tally_70 : decode cc_W_tally 70 = .ok (.aload_n 0, 1) := by decide +kernel
theorem dd_W_tally_71 : decode cc_W_tally 71 = .ok (.getfield 41, 3) := by decide +kernel
theorem dd_W_tally_74 : decode cc_W_tally 74 = .ok (.getfield 76, 3) := by decide +kernel
theorem dd_W_tally_77 : decode cc_W_tally 77 = .ok (.iload_n 1, 1) := by decide +kernel
theorem dd_W_tally_78 : decode cc_W_tally 78 = .ok (.aaload, 1) := by decide +kernel
theorem dd_W_tally_79 : decode cc_W_tally 79 = .ok (.getfield 165, 3) := by decide +kernel
theorem dd_W_tally_82 : decode cc_W_tally 82 = .ok (.ireturn, 1) := by decide +kernel
theorem dd_W_tally_83 : decode cc_W_tally 83 = .ok (.iconst (-1), 1) := by decide +kernel
theorem dd_W_tally_84 : decode cc_W_tally 84 = .ok (.ireturn, 1) := by decide +kernel
theorem dd_W_isDevice_0 : decode cc_W_isDevice 0 = .ok (.iload_n 0, 1) := by decide +kernel
theorem dd_W_isDevice_1 : decode cc_W_isDevice 1 = .ok (.ifCond .lt 12, 3) := by decide +kernel
theorem dd_W_isDevice_4 : decode cc_W_isDevice 4 = .ok (.iload_n 0, 1) := by decide +kernel
theorem dd_W_isDevice_5 : decode cc_W_isDevice 5 = .ok (.iconst 3, 1) := by decide +kernel
theorem dd_W_isDevice_6 : decode cc_W_isDevice 6 = .ok (.if_icmp .ge 7, 3) := by decide +kernel
theorem dd_W_isDevice_9 : decode cc_W_isDevice 9 = .ok (.iconst 1, 1) := by decide +kernel
theorem dd_W_isDevice_10 : decode cc_W_isDevice 10 = .ok (.goto 4, 3) := by decide +kernel
theorem dd_W_isDevice_13 : decode cc_W_isDevice 13 = .ok (.iconst 0, 1) := by decide +kernel
theorem dd_W_isDevice_14 : decode cc_W_isDevice 14 = .ok (.ireturn, 1) := by decide +kernel
theorem dd_W_inbox_0 : decode cc_W_inbox 0 = .ok (.iload_n 2, 1) := by decide +kernel
theorem dd_W_inbox_1 : decode cc_W_inbox 1 = .ok (.ifCond .eq 18, 3) := by decide +kernel
theorem dd_W_inbox_4 : decode cc_W_inbox 4 = .ok (.aload_n 0, 1) := by decide +kernel
theorem dd_W_inbox_5 : decode cc_W_inbox 5 = .ok (.getfield 41, 3) := by decide +kernel
theorem dd_W_inbox_8 : decode cc_W_inbox 8 = .ok (.getfield 76, 3) := by decide +kernel
theorem dd_W_inbox_11 : decode cc_W_inbox 11 = .ok (.iload_n 1, 1) := by decide +kernel
theorem dd_W_inbox_12 : decode cc_W_inbox 12 = .ok (.aaload, 1) := by decide +kernel
theorem dd_W_inbox_13 : decode cc_W_inbox 13 = .ok (.getfield 168, 3) := by decide +kernel
theorem dd_W_inbox_16 : decode cc_W_inbox 16 = .ok (.goto 12, 3) := by decide +kernel
theorem dd_W_inbox_19 : decode cc_W_inbox 19 = .ok (.aload_n 0, 1) := by decide +kernel
theorem dd_W_inbox_20 : decode cc_W_inbox 20 = .ok (.getfield 18, 3) := by decide +kernel
theorem dd_W_inbox_23 : decode cc_W_inbox 23 = .ok (.iload_n 1, 1) := by decide +kernel
theorem dd_W_inbox_24 : decode cc_W_inbox 24 = .ok (.aaload, 1) := by decide +kernel
theorem dd_W_inbox_25 : decode cc_W_inbox 25 = .ok (.getfield 171, 3) := by decide +kernel
theorem dd_W_inbox_28 : decode cc_W_inbox 28 = .ok (.areturn, 1) := by decide +kernel
theorem dd_W_number_0 : decode cc_W_number 0 = .ok (.iconst 0, 1) := by decide +kernel
theorem dd_W_number_1 : decode cc_W_number 1 = .ok (.istore_n 3, 1) := by decide +kernel
theorem dd_W_number_2 : decode cc_W_number 2 = .ok (.iconst 0, 1) := by decide +kernel
theorem dd_W_number_3 : decode cc_W_number 3 = .ok (.istore 4, 2) := by decide +kernel
theorem dd_W_number_5 : decode cc_W_number 5 = .ok (.iload 4, 2) := by decide +kernel
theorem dd_W_number_7 : decode cc_W_number 7 = .ok (.iload_n 2, 1) := by decide +kernel
theorem dd_W_number_8 : decode cc_W_number 8 = .ok (.if_icmp .ge 24, 3) := by decide +kernel
theorem dd_W_number_11 : decode cc_W_number 11 = .ok (.iload_n 3, 1) := by decide +kernel
theorem dd_W_number_12 : decode cc_W_number 12 = .ok (.aload_n 0, 1) := by decide +kernel
theorem dd_W_number_13 : decode cc_W_number 13 = .ok (.iload_n 1, 1) := by decide +kernel
theorem dd_W_number_14 : decode cc_W_number 14 = .ok (.iload 4, 2) := by decide +kernel
theorem dd_W_number_16 : decode cc_W_number 16 = .ok (.iadd, 1) := by decide +kernel
theorem dd_W_number_17 : decode cc_W_number 17 = .ok (.iaload, 1) := by decide +kernel
theorem dd_W_number_18 : decode cc_W_number 18 = .ok (.bipush 8, 2) := by decide +kernel
theorem dd_W_number_20 : decode cc_W_number 20 = .ok (.iload 4, 2) := by decide +kernel
theorem dd_W_number_22 : decode cc_W_number 22 = .ok (.imul, 1) := by decide +kernel
theorem dd_W_number_23 : decode cc_W_number 23 = .ok (.ishl, 1) := by decide +kernel
theorem dd_W_number_24 : decode cc_W_number 24 = .ok (.ior, 1) := by decide +kernel
theorem dd_W_number_25 : decode cc_W_number 25 = .ok (.istore_n 3, 1) := by decide +kernel
theorem dd_W_number_26 : decode cc_W_number 26 = .ok (.iinc 4 1, 3) := by decide +kernel
theorem dd_W_number_29 : decode cc_W_number 29 = .ok (.goto (-24), 3) := by decide +kernel
theorem dd_W_number_32 : decode cc_W_number 32 = .ok (.iload_n 3, 1) := by decide +kernel
theorem dd_W_number_33 : decode cc_W_number 33 = .ok (.ireturn, 1) := by decide +kernel
theorem dd_W_putNumber_0 : decode cc_W_putNumber 0 = .ok (.iconst 0, 1) := by decide +kernel
theorem dd_W_putNumber_1 : decode cc_W_putNumber 1 = .ok (.istore 4, 2) := by decide +kernel
theorem dd_W_putNumber_3 : decode cc_W_putNumber 3 = .ok (.iload 4, 2) := by decide +kernel
theorem dd_W_putNumber_5 : decode cc_W_putNumber 5 = .ok (.iload_n 3, 1) := by decide +kernel
theorem dd_W_putNumber_6 : decode cc_W_putNumber 6 = .ok (.if_icmp .ge 26, 3) := by decide +kernel
theorem dd_W_putNumber_9 : decode cc_W_putNumber 9 = .ok (.aload_n 0, 1) := by decide +kernel
theorem dd_W_putNumber_10 : decode cc_W_putNumber 10 = .ok (.iload_n 1, 1) := by decide +kernel
theorem dd_W_putNumber_11 : decode cc_W_putNumber 11 = .ok (.iload 4, 2) := by decide +kernel
theorem dd_W_putNumber_13 : decode cc_W_putNumber 13 = .ok (.iadd, 1) := by decide +kernel
theorem dd_W_putNumber_14 : decode cc_W_putNumber 14 = .ok (.iload_n 2, 1) := by decide +kernel
theorem dd_W_putNumber_15 : decode cc_W_putNumber 15 = .ok (.bipush 8, 2) := by decide +kernel
theorem dd_W_putNumber_17 : decode cc_W_putNumber 17 = .ok (.iload 4, 2) := by decide +kernel
theorem dd_W_putNumber_19 : decode cc_W_putNumber 19 = .ok (.imul, 1) := by decide +kernel
theorem dd_W_putNumber_20 : decode cc_W_putNumber 20 = .ok (.iushr, 1) := by decide +kernel
theorem dd_W_putNumber_21 : decode cc_W_putNumber 21 = .ok (.sipush 255, 3) := by decide +kernel
theorem dd_W_putNumber_24 : decode cc_W_putNumber 24 = .ok (.iand, 1) := by decide +kernel
theorem dd_W_putNumber_25 : decode cc_W_putNumber 25 = .ok (.iastore, 1) := by decide +kernel
theorem dd_W_putNumber_26 : decode cc_W_putNumber 26 = .ok (.iinc 4 1, 3) := by decide +kernel
theorem dd_W_putNumber_29 : decode cc_W_putNumber 29 = .ok (.goto (-26), 3) := by decide +kernel
theorem dd_W_putNumber_32 : decode cc_W_putNumber 32 = .ok (.return_, 1) := by decide +kernel
theorem dd_W_countFrom_0 : decode cc_W_countFrom 0 = .ok (.iload_n 0, 1) := by decide +kernel
theorem dd_W_countFrom_1 : decode cc_W_countFrom 1 = .ok (.iload_n 1, 1) := by decide +kernel
theorem dd_W_countFrom_2 : decode cc_W_countFrom 2 = .ok (.iload_n 0, 1) := by decide +kernel
theorem dd_W_countFrom_3 : decode cc_W_countFrom 3 = .ok (.isub, 1) := by decide +kernel
theorem dd_W_countFrom_4 : decode cc_W_countFrom 4 = .ok (.ldc 56, 2) := by decide +kernel
theorem dd_W_countFrom_6 : decode cc_W_countFrom 6 = .ok (.iand, 1) := by decide +kernel
theorem dd_W_countFrom_7 : decode cc_W_countFrom 7 = .ok (.iadd, 1) := by decide +kernel
theorem dd_W_countFrom_8 : decode cc_W_countFrom 8 = .ok (.ireturn, 1) := by decide +kernel
theorem dd_W_lowest_0 : decode cc_W_lowest 0 = .ok (.lload_n 0, 1) := by decide +kernel
theorem dd_W_lowest_1 : decode cc_W_lowest 1 = .ok (.ldc2_w 154, 3) := by decide +kernel
theorem dd_W_lowest_4 : decode cc_W_lowest 4 = .ok (.bipush 64, 2) := by decide +kernel
theorem dd_W_lowest_6 : decode cc_W_lowest 6 = .ok (.bipush 8, 2) := by decide +kernel
theorem dd_W_lowest_8 : decode cc_W_lowest 8 = .ok (.iload_n 2, 1) := by decide +kernel
theorem dd_W_lowest_9 : decode cc_W_lowest 9 = .ok (.imul, 1) := by decide +kernel
theorem dd_W_lowest_10 : decode cc_W_lowest 10 = .ok (.isub, 1) := by decide +kernel
theorem dd_W_lowest_11 : decode cc_W_lowest 11 = .ok (.lushr, 1) := by decide +kernel
theorem dd_W_lowest_12 : decode cc_W_lowest 12 = .ok (.land, 1) := by decide +kernel
theorem dd_W_lowest_13 : decode cc_W_lowest 13 = .ok (.lreturn, 1) := by decide +kernel
theorem dd_R_init_0 : decode cc_R_init 0 = .ok (.aload_n 0, 1) := by decide +kernel
theorem dd_R_init_1 : decode cc_R_init 1 = .ok (.invokespecial 1, 3) := by decide +kernel
theorem dd_R_init_4 : decode cc_R_init 4 = .ok (.aload_n 0, 1) := by decide +kernel
theorem dd_R_init_5 : decode cc_R_init 5 = .ok (.sipush 256, 3) := by decide +kernel
theorem dd_R_init_8 : decode cc_R_init 8 = .ok (.newarray .int, 2) := by decide +kernel
theorem dd_R_init_10 : decode cc_R_init 10 = .ok (.putfield 7, 3) := by decide +kernel
theorem dd_R_init_13 : decode cc_R_init 13 = .ok (.aload_n 0, 1) := by decide +kernel
theorem dd_R_init_14 : decode cc_R_init 14 = .ok (.sipush 256, 3) := by decide +kernel
theorem dd_R_init_17 : decode cc_R_init 17 = .ok (.newarray .int, 2) := by decide +kernel
theorem dd_R_init_19 : decode cc_R_init 19 = .ok (.putfield 13, 3) := by decide +kernel
theorem dd_R_init_22 : decode cc_R_init 22 = .ok (.aload_n 0, 1) := by decide +kernel
theorem dd_R_init_23 : decode cc_R_init 23 = .ok (.sipush 176, 3) := by decide +kernel
theorem dd_R_init_26 : decode cc_R_init 26 = .ok (.newarray .int, 2) := by decide +kernel
theorem dd_R_init_28 : decode cc_R_init 28 = .ok (.putfield 16, 3) := by decide +kernel
theorem dd_R_init_31 : decode cc_R_init 31 = .ok (.aload_n 0, 1) := by decide +kernel
theorem dd_R_init_32 : decode cc_R_init 32 = .ok (.bipush 16, 2) := by decide +kernel
theorem dd_R_init_34 : decode cc_R_init 34 = .ok (.newarray .int, 2) := by decide +kernel
theorem dd_R_init_36 : decode cc_R_init 36 = .ok (.putfield 19, 3) := by decide +kernel
theorem dd_R_init_39 : decode cc_R_init 39 = .ok (.aload_n 0, 1) := by decide +kernel
theorem dd_R_init_40 : decode cc_R_init 40 = .ok (.bipush 16, 2) := by decide +kernel
theorem dd_R_init_42 : decode cc_R_init 42 = .ok (.newarray .int, 2) := by decide +kernel
theorem dd_R_init_44 : decode cc_R_init 44 = .ok (.putfield 22, 3) := by decide +kernel
theorem dd_R_init_47 : decode cc_R_init 47 = .ok (.aload_n 0, 1) := by decide +kernel
theorem dd_R_init_48 : decode cc_R_init 48 = .ok (.bipush 16, 2) := by decide +kernel
theorem dd_R_init_50 : decode cc_R_init 50 = .ok (.newarray .int, 2) := by decide +kernel
theorem dd_R_init_52 : decode cc_R_init 52 = .ok (.putfield 25, 3) := by decide +kernel
theorem dd_R_init_55 : decode cc_R_init 55 = .ok (.aload_n 0, 1) := by decide +kernel
theorem dd_R_init_56 : decode cc_R_init 56 = .ok (.sipush 240, 3) := by decide +kernel
theorem dd_R_init_59 : decode cc_R_init 59 = .ok (.newarray .int, 2) := by decide +kernel
theorem dd_R_init_61 : decode cc_R_init 61 = .ok (.putfield 28, 3) := by decide +kernel
theorem dd_R_init_64 : decode cc_R_init 64 = .ok (.aload_n 0, 1) := by decide +kernel
theorem dd_R_init_65 : decode cc_R_init 65 = .ok (.bipush 64, 2) := by decide +kernel
theorem dd_R_init_67 : decode cc_R_init 67 = .ok (.newarray .int, 2) := by decide +kernel
theorem dd_R_init_69 : decode cc_R_init 69 = .ok (.putfield 31, 3) := by decide +kernel
theorem dd_R_init_72 : decode cc_R_init 72 = .ok (.aload_n 0, 1) := by decide +kernel
theorem dd_R_init_73 : decode cc_R_init 73 = .ok (.sipush 768, 3) := by decide +kernel
theorem dd_R_init_76 : decode cc_R_init 76 = .ok (.newarray .int, 2) := by decide +kernel
theorem dd_R_init_78 : decode cc_R_init 78 = .ok (.putfield 34, 3) := by decide +kernel
theorem dd_R_init_81 : decode cc_R_init 81 = .ok (.aload_n 0, 1) := by decide +kernel
theorem dd_R_init_82 : decode cc_R_init 82 = .ok (.bipush 24, 2) := by decide +kernel
theorem dd_R_init_84 : decode cc_R_init 84 = .ok (.newarray .int, 2) := by decide +kernel
theorem dd_R_init_86 : decode cc_R_init 86 = .ok (.putfield 37, 3) := by decide +kernel
theorem dd_R_init_89 : decode cc_R_init 89 = .ok (.aload_n 0, 1) := by decide +kernel
theorem dd_R_init_90 : decode cc_R_init 90 = .ok (.bipush 24, 2) := by decide +kernel
theorem dd_R_init_92 : decode cc_R_init 92 = .ok (.newarray .int, 2) := by decide +kernel
theorem dd_R_init_94 : decode cc_R_init 94 = .ok (.putfield 40, 3) := by decide +kernel
theorem dd_R_init_97 : decode cc_R_init 97 = .ok (.aload_n 0, 1) := by decide +kernel
theorem dd_R_init_98 : decode cc_R_init 98 = .ok (.iconst 3, 1) := by decide +kernel
theorem dd_R_init_99 : decode cc_R_init 99 = .ok (.newarray .int, 2) := by decide +kernel
theorem dd_R_init_101 : decode cc_R_init 101 = .ok (.putfield 43, 3) := by decide +kernel
theorem dd_R_init_104 : decode cc_R_init 104 = .ok (.aload_n 0, 1) := by decide +kernel
theorem dd_R_init_105 : decode cc_R_init 105 = .ok (.iconst 3, 1) := by decide +kernel
theorem dd_R_init_106 : decode cc_R_init 106 = .ok (.newarray .boolean, 2) := by decide +kernel
theorem dd_R_init_108 : decode cc_R_init 108 = .ok (.putfield 46, 3) := by decide +kernel
theorem dd_R_init_111 : decode cc_R_init 111 = .ok (.aload_n 0, 1) := by decide +kernel
theorem dd_R_init_112 : decode cc_R_init 112 = .ok (.iconst 3, 1) := by decide +kernel
theorem dd_R_init_113 : decode cc_R_init 113 = .ok (.newarray .int, 2) := by decide +kernel
theorem dd_R_init_115 : decode cc_R_init 115 = .ok (.putfield 50, 3) := by decide +kernel
theorem dd_R_init_118 : decode cc_R_init 118 = .ok (.aload_n 0, 1) := by decide +kernel
theorem dd_R_init_119 : decode cc_R_init 119 = .ok (.iconst 3, 1) := by decide +kernel
theorem dd_R_init_120 : decode cc_R_init 120 = .ok (.newarray .int, 2) := by decide +kernel
theorem dd_R_init_122 : decode cc_R_init 122 = .ok (.putfield 53, 3) := by decide +kernel
theorem dd_R_init_125 : decode cc_R_init 125 = .ok (.aload_n 0, 1) := by decide +kernel
theorem dd_R_init_126 : decode cc_R_init 126 = .ok (.iconst 3, 1) := by decide +kernel
theorem dd_R_init_127 : decode cc_R_init 127 = .ok (.newarray .int, 2) := by decide +kernel
theorem dd_R_init_129 : decode cc_R_init 129 = .ok (.putfield 56, 3) := by decide +kernel
theorem dd_R_init_132 : decode cc_R_init 132 = .ok (.aload_n 0, 1) := by decide +kernel
theorem dd_R_init_133 : decode cc_R_init 133 = .ok (.iconst 3, 1) := by decide +kernel
theorem dd_R_init_134 : decode cc_R_init 134 = .ok (.newarray .int, 2) := by decide +kernel
theorem dd_R_init_136 : decode cc_R_init 136 = .ok (.putfield 59, 3) := by decide +kernel
theorem dd_R_init_139 : decode cc_R_init 139 = .ok (.aload_n 0, 1) := by decide +kernel
theorem dd_R_init_140 : decode cc_R_init 140 = .ok (.iconst 3, 1) := by decide +kernel
theorem dd_R_init_141 : decode cc_R_init 141 = .ok (.newarray .int, 2) := by decide +kernel
theorem dd_R_init_143 : decode cc_R_init 143 = .ok (.putfield 62, 3) := by decide +kernel
theorem dd_R_init_146 : decode cc_R_init 146 = .ok (.aload_n 0, 1) := by decide +kernel
theorem dd_R_init_147 : decode cc_R_init 147 = .ok (.iconst 3, 1) := by decide +kernel
theorem dd_R_init_148 : decode cc_R_init 148 = .ok (.newarray .int, 2) := by decide +kernel
theorem dd_R_init_150 : decode cc_R_init 150 = .ok (.putfield 65, 3) := by decide +kernel
theorem dd_R_init_153 : decode cc_R_init 153 = .ok (.aload_n 0, 1) := by decide +kernel
theorem dd_R_init_154 : decode cc_R_init 154 = .ok (.iconst 3, 1) := by decide +kernel
theorem dd_R_init_155 : decode cc_R_init 155 = .ok (.newarray .int, 2) := by decide +kernel
theorem dd_R_init_157 : decode cc_R_init 157 = .ok (.putfield 68, 3) := by decide +kernel
theorem dd_R_init_160 : decode cc_R_init 160 = .ok (.aload_n 0, 1) := by decide +kernel
theorem dd_R_init_161 : decode cc_R_init 161 = .ok (.iconst 3, 1) := by decide +kernel
theorem dd_R_init_162 : decode cc_R_init 162 = .ok (.newarray .int, 2) := by decide +kernel
theorem dd_R_init_164 : decode cc_R_init 164 = .ok (.putfield 71, 3) := by decide +kernel
theorem dd_R_init_167 : decode cc_R_init 167 = .ok (.aload_n 0, 1) := by decide +kernel
theorem dd_R_init_168 : decode cc_R_init 168 = .ok (.iconst 3, 1) := by decide +kernel
theorem dd_R_init_169 : decode cc_R_init 169 = .ok (.newarray .int, 2) := by decide +kernel
theorem dd_R_init_171 : decode cc_R_init 171 = .ok (.putfield 74, 3) := by decide +kernel
theorem dd_R_init_174 : decode cc_R_init 174 = .ok (.aload_n 0, 1) := by decide +kernel
theorem dd_R_init_175 : decode cc_R_init 175 = .ok (.iconst 3, 1) := by decide +kernel
theorem dd_R_init_176 : decode cc_R_init 176 = .ok (.newarray .int, 2) := by decide +kernel
theorem dd_R_init_178 : decode cc_R_init 178 = .ok (.putfield 77, 3) := by decide +kernel
theorem dd_R_init_181 : decode cc_R_init 181 = .ok (.aload_n 0, 1) := by decide +kernel
theorem dd_R_init_182 : decode cc_R_init 182 = .ok (.iconst 3, 1) := by decide +kernel
theorem dd_R_init_183 : decode cc_R_init 183 = .ok (.newarray .int, 2) := by decide +kernel
theorem dd_R_init_185 : decode cc_R_init 185 = .ok (.putfield 80, 3) := by decide +kernel
theorem dd_R_init_188 : decode cc_R_init 188 = .ok (.aload_n 0, 1) := by decide +kernel
theorem dd_R_init_189 : decode cc_R_init 189 = .ok (.iconst 3, 1) := by decide +kernel
theorem dd_R_init_190 : decode cc_R_init 190 = .ok (.newarray .int, 2) := by decide +kernel
theorem dd_R_init_192 : decode cc_R_init 192 = .ok (.putfield 83, 3) := by decide +kernel
theorem dd_R_init_195 : decode cc_R_init 195 = .ok (.aload_n 0, 1) := by decide +kernel
theorem dd_R_init_196 : decode cc_R_init 196 = .ok (.iconst 3, 1) := by decide +kernel
theorem dd_R_init_197 : decode cc_R_init 197 = .ok (.newarray .int, 2) := by decide +kernel
theorem dd_R_init_199 : decode cc_R_init 199 = .ok (.putfield 86, 3) := by decide +kernel
theorem dd_R_init_202 : decode cc_R_init 202 = .ok (.aload_n 0, 1) := by decide +kernel
theorem dd_R_init_203 : decode cc_R_init 203 = .ok (.iconst 3, 1) := by decide +kernel
theorem dd_R_init_204 : decode cc_R_init 204 = .ok (.newarray .int, 2) := by decide +kernel
theorem dd_R_init_206 : decode cc_R_init 206 = .ok (.putfield 89, 3) := by decide +kernel
theorem dd_R_init_209 : decode cc_R_init 209 = .ok (.aload_n 0, 1) := by decide +kernel
theorem dd_R_init_210 : decode cc_R_init 210 = .ok (.iconst 3, 1) := by decide +kernel
theorem dd_R_init_211 : decode cc_R_init 211 = .ok (.newarray .int, 2) := by decide +kernel
theorem dd_R_init_213 : decode cc_R_init 213 = .ok (.putfield 92, 3) := by decide +kernel
theorem dd_R_init_216 : decode cc_R_init 216 = .ok (.aload_n 0, 1) := by decide +kernel
theorem dd_R_init_217 : decode cc_R_init 217 = .ok (.iconst 3, 1) := by decide +kernel
theorem dd_R_init_218 : decode cc_R_init 218 = .ok (.newarray .boolean, 2) := by decide +kernel
theorem dd_R_init_220 : decode cc_R_init 220 = .ok (.putfield 95, 3) := by decide +kernel
theorem dd_R_init_223 : decode cc_R_init 223 = .ok (.aload_n 0, 1) := by decide +kernel
theorem dd_R_init_224 : decode cc_R_init 224 = .ok (.iconst 3, 1) := by decide +kernel
theorem dd_R_init_225 : decode cc_R_init 225 = .ok (.newarray .boolean, 2) := by decide +kernel
theorem dd_R_init_227 : decode cc_R_init 227 = .ok (.putfield 98, 3) := by decide +kernel
theorem dd_R_init_230 : decode cc_R_init 230 = .ok (.aload_n 0, 1) := by decide +kernel
theorem dd_R_init_231 : decode cc_R_init 231 = .ok (.bipush 12, 2) := by decide +kernel
theorem dd_R_init_233 : decode cc_R_init 233 = .ok (.newarray .long, 2) := by decide +kernel
theorem dd_R_init_235 : decode cc_R_init 235 = .ok (.putfield 101, 3) := by decide +kernel
theorem dd_R_init_238 : decode cc_R_init 238 = .ok (.aload_n 0, 1) := by decide +kernel
theorem dd_R_init_239 : decode cc_R_init 239 = .ok (.bipush 12, 2) := by decide +kernel
theorem dd_R_init_241 : decode cc_R_init 241 = .ok (.newarray .int, 2) := by decide +kernel
theorem dd_R_init_243 : decode cc_R_init 243 = .ok (.putfield 105, 3) := by decide +kernel
theorem dd_R_init_246 : decode cc_R_init 246 = .ok (.aload_n 0, 1) := by decide +kernel
theorem dd_R_init_247 : decode cc_R_init 247 = .ok (.iconst 3, 1) := by decide +kernel
theorem dd_R_init_248 : decode cc_R_init 248 = .ok (.newarray .int, 2) := by decide +kernel
theorem dd_R_init_250 : decode cc_R_init 250 = .ok (.putfield 108, 3) := by decide +kernel
theorem dd_R_init_253 : decode cc_R_init 253 = .ok (.aload_n 0, 1) := by decide +kernel
theorem dd_R_init_254 : decode cc_R_init 254 = .ok (.bipush 6, 2) := by decide +kernel
theorem dd_R_init_256 : decode cc_R_init 256 = .ok (.newarray .int, 2) := by decide +kernel
theorem dd_R_init_258 : decode cc_R_init 258 = .ok (.putfield 111, 3) := by decide +kernel
theorem dd_R_init_261 : decode cc_R_init 261 = .ok (.aload_n 0, 1) := by decide +kernel
theorem dd_R_init_262 : decode cc_R_init 262 = .ok (.bipush 24, 2) := by decide +kernel
theorem dd_R_init_264 : decode cc_R_init 264 = .ok (.newarray .long, 2) := by decide +kernel
theorem dd_R_init_266 : decode cc_R_init 266 = .ok (.putfield 114, 3) := by decide +kernel
theorem dd_R_init_269 : decode cc_R_init 269 = .ok (.aload_n 0, 1) := by decide +kernel
theorem dd_R_init_270 : decode cc_R_init 270 = .ok (.bipush 9, 2) := by decide +kernel
theorem dd_R_init_272 : decode cc_R_init 272 = .ok (.newarray .int, 2) := by decide +kernel
theorem dd_R_init_274 : decode cc_R_init 274 = .ok (.putfield 117, 3) := by decide +kernel
theorem dd_R_init_277 : decode cc_R_init 277 = .ok (.aload_n 0, 1) := by decide +kernel
theorem dd_R_init_278 : decode cc_R_init 278 = .ok (.invokevirtual 120, 3) := by decide +kernel
theorem dd_R_init_281 : decode cc_R_init 281 = .ok (.iconst 0, 1) := by decide +kernel
theorem dd_R_init_282 : decode cc_R_init 282 = .ok (.istore_n 2, 1) := by decide +kernel
theorem dd_R_init_283 : decode cc_R_init 283 = .ok (.iload_n 2, 1) := by decide +kernel
theorem dd_R_init_284 : decode cc_R_init 284 = .ok (.iconst 3, 1) := by decide +kernel
theorem dd_R_init_285 : decode cc_R_init 285 = .ok (.if_icmp .ge 63, 3) := by decide +kernel
theorem dd_R_init_288 : decode cc_R_init 288 = .ok (.iconst 0, 1) := by decide +kernel
theorem dd_R_init_289 : decode cc_R_init 289 = .ok (.istore_n 3, 1) := by decide +kernel
theorem dd_R_init_290 : decode cc_R_init 290 = .ok (.iload_n 3, 1) := by decide +kernel
theorem dd_R_init_291 : decode cc_R_init 291 = .ok (.bipush 16, 2) := by decide +kernel
theorem dd_R_init_293 : decode cc_R_init 293 = .ok (.if_icmp .ge 35, 3) := by decide +kernel
theorem dd_R_init_296 : decode cc_R_init 296 = .ok (.aload_n 0, 1) := by decide +kernel
theorem dd_R_init_297 : decode cc_R_init 297 = .ok (.getfield 28, 3) := by decide +kernel
theorem dd_R_init_300 : decode cc_R_init 300 = .ok (.bipush 16, 2) := by decide +kernel
theorem dd_R_init_302 : decode cc_R_init 302 = .ok (.iload_n 2, 1) := by decide +kernel
theorem dd_R_init_303 : decode cc_R_init 303 = .ok (.imul, 1) := by decide +kernel
theorem dd_R_init_304 : decode cc_R_init 304 = .ok (.iload_n 3, 1) := by decide +kernel
theorem dd_R_init_305 : decode cc_R_init 305 = .ok (.iadd, 1) := by decide +kernel
theorem dd_R_init_306 : decode cc_R_init 306 = .ok (.iload_n 1, 1) := by decide +kernel
theorem dd_R_init_307 : decode cc_R_init 307 = .ok (.bipush 41, 2) := by decide +kernel
theorem dd_R_init_309 : decode cc_R_init 309 = .ok (.iload_n 2, 1) := by decide +kernel
theorem dd_R_init_310 : decode cc_R_init 310 = .ok (.imul, 1) := by decide +kernel
theorem dd_R_init_311 : decode cc_R_init 311 = .ok (.iadd, 1) := by decide +kernel
theorem dd_R_init_312 : decode cc_R_init 312 = .ok (.bipush 13, 2) := by decide +kernel
theorem dd_R_init_314 : decode cc_R_init 314 = .ok (.iload_n 3, 1) := by decide +kernel
theorem dd_R_init_315 : decode cc_R_init 315 = .ok (.imul, 1) := by decide +kernel
theorem dd_R_init_316 : decode cc_R_init 316 = .ok (.iadd, 1) := by decide +kernel
theorem dd_R_init_317 : decode cc_R_init 317 = .ok (.sipush 255, 3) := by decide +kernel
theorem dd_R_init_320 : decode cc_R_init 320 = .ok (.iand, 1) := by decide +kernel
theorem dd_R_init_321 : decode cc_R_init 321 = .ok (.iastore, 1) := by decide +kernel
theorem dd_R_init_322 : decode cc_R_init 322 = .ok (.iinc 3 1, 3) := by decide +kernel
theorem dd_R_init_325 : decode cc_R_init 325 = .ok (.goto (-35), 3) := by decide +kernel
theorem dd_R_init_328 : decode cc_R_init 328 = .ok (.aload_n 0, 1) := by decide +kernel
theorem dd_R_init_329 : decode cc_R_init 329 = .ok (.getfield 86, 3) := by decide +kernel
theorem dd_R_init_332 : decode cc_R_init 332 = .ok (.iload_n 2, 1) := by decide +kernel
theorem dd_R_init_333 : decode cc_R_init 333 = .ok (.iconst (-1), 1) := by decide +kernel
theorem dd_R_init_334 : decode cc_R_init 334 = .ok (.iastore, 1) := by decide +kernel
theorem dd_R_init_335 : decode cc_R_init 335 = .ok (.aload_n 0, 1) := by decide +kernel
theorem dd_R_init_336 : decode cc_R_init 336 = .ok (.getfield 74, 3) := by decide +kernel
theorem dd_R_init_339 : decode cc_R_init 339 = .ok (.iload_n 2, 1) := by decide +kernel
theorem dd_R_init_340 : decode cc_R_init 340 = .ok (.iconst (-1), 1) := by decide +kernel
theorem dd_R_init_341 : decode cc_R_init 341 = .ok (.iastore, 1) := by decide +kernel
theorem dd_R_init_342 : decode cc_R_init 342 = .ok (.iinc 2 1, 3) := by decide +kernel
theorem dd_R_init_345 : decode cc_R_init 345 = .ok (.goto (-62), 3) := by decide +kernel
theorem dd_R_init_348 : decode cc_R_init 348 = .ok (.return_, 1) := by decide +kernel
theorem dd_R_twice_0 : decode cc_R_twice 0 = .ok (.iload_n 0, 1) := by decide +kernel
theorem dd_R_twice_1 : decode cc_R_twice 1 = .ok (.sipush 128, 3) := by decide +kernel
theorem dd_R_twice_4 : decode cc_R_twice 4 = .ok (.if_icmp .ge 9, 3) := by decide +kernel
theorem dd_R_twice_7 : decode cc_R_twice 7 = .ok (.iconst 2, 1) := by decide +kernel
theorem dd_R_twice_8 : decode cc_R_twice 8 = .ok (.iload_n 0, 1) := by decide +kernel
theorem dd_R_twice_9 : decode cc_R_twice 9 = .ok (.imul, 1) := by decide +kernel
theorem dd_R_twice_10 : decode cc_R_twice 10 = .ok (.goto 10, 3) := by decide +kernel
theorem dd_R_twice_13 : decode cc_R_twice 13 = .ok (.iconst 2, 1) := by decide +kernel
theorem dd_R_twice_14 : decode cc_R_twice 14 = .ok (.iload_n 0, 1) := by decide +kernel
theorem dd_R_twice_15 : decode cc_R_twice 15 = .ok (.imul, 1) := by decide +kernel
theorem dd_R_twice_16 : decode cc_R_twice 16 = .ok (.sipush 283, 3) := by decide +kernel
theorem dd_R_twice_19 : decode cc_R_twice 19 = .ok (.ixor, 1) := by decide +kernel
theorem dd_R_twice_20 : decode cc_R_twice 20 = .ok (.ireturn, 1) := by decide +kernel
theorem dd_R_times_0 : decode cc_R_times 0 = .ok (.iconst 0, 1) := by decide +kernel
theorem dd_R_times_1 : decode cc_R_times 1 = .ok (.istore_n 2, 1) := by decide +kernel
theorem dd_R_times_2 : decode cc_R_times 2 = .ok (.iload_n 0, 1) := by decide +kernel
theorem dd_R_times_3 : decode cc_R_times 3 = .ok (.istore_n 3, 1) := by decide +kernel
theorem dd_R_times_4 : decode cc_R_times 4 = .ok (.iload_n 1, 1) := by decide +kernel
theorem dd_R_times_5 : decode cc_R_times 5 = .ok (.istore 4, 2) := by decide +kernel
theorem dd_R_times_7 : decode cc_R_times 7 = .ok (.iload 4, 2) := by decide +kernel
theorem dd_R_times_9 : decode cc_R_times 9 = .ok (.ifCond .le 33, 3) := by decide +kernel
theorem dd_R_times_12 : decode cc_R_times 12 = .ok (.iload 4, 2) := by decide +kernel
theorem dd_R_times_14 : decode cc_R_times 14 = .ok (.iconst 1, 1) := by decide +kernel
theorem dd_R_times_15 : decode cc_R_times 15 = .ok (.iand, 1) := by decide +kernel
theorem dd_R_times_16 : decode cc_R_times 16 = .ok (.iconst 1, 1) := by decide +kernel
theorem dd_R_times_17 : decode cc_R_times 17 = .ok (.if_icmp .ne 9, 3) := by decide +kernel
theorem dd_R_times_20 : decode cc_R_times 20 = .ok (.iload_n 2, 1) := by decide +kernel
theorem dd_R_times_21 : decode cc_R_times 21 = .ok (.iload_n 3, 1) := by decide +kernel
theorem dd_R_times_22 : decode cc_R_times 22 = .ok (.ixor, 1) := by decide +kernel
theorem dd_R_times_23 : decode cc_R_times 23 = .ok (.goto 4, 3) := by decide +kernel
theorem dd_R_times_26 : decode cc_R_times 26 = .ok (.iload_n 2, 1) := by decide +kernel
theorem dd_R_times_27 : decode cc_R_times 27 = .ok (.istore_n 2, 1) := by decide +kernel
theorem dd_R_times_28 : decode cc_R_times 28 = .ok (.iload_n 3, 1) := by decide +kernel
theorem dd_R_times_29 : decode cc_R_times 29 = .ok (.invokestatic 123, 3) := by decide +kernel
theorem dd_R_times_32 : decode cc_R_times 32 = .ok (.istore_n 3, 1) := by decide +kernel
theorem dd_R_times_33 : decode cc_R_times 33 = .ok (.iload 4, 2) := by decide +kernel
theorem dd_R_times_35 : decode cc_R_times 35 = .ok (.iconst 1, 1) := by decide +kernel
theorem dd_R_times_36 : decode cc_R_times 36 = .ok (.ishr, 1) := by decide +kernel
theorem dd_R_times_37 : decode cc_R_times 37 = .ok (.istore 4, 2) := by decide +kernel
theorem dd_R_times_39 : decode cc_R_times 39 = .ok (.goto (-32), 3) := by decide +kernel
theorem dd_R_times_42 : decode cc_R_times 42 = .ok (.iload_n 2, 1) := by decide +kernel
theorem dd_R_times_43 : decode cc_R_times 43 = .ok (.ireturn, 1) := by decide +kernel
theorem dd_R_boxes_0 : decode cc_R_boxes 0 = .ok (.iconst 1, 1) := by decide +kernel
theorem dd_R_boxes_1 : decode cc_R_boxes 1 = .ok (.istore_n 1, 1) := by decide +kernel
theorem dd_R_boxes_2 : decode cc_R_boxes 2 = .ok (.iconst 0, 1) := by decide +kernel
theorem dd_R_boxes_3 : decode cc_R_boxes 3 = .ok (.istore_n 2, 1) := by decide +kernel
theorem dd_R_boxes_4 : decode cc_R_boxes 4 = .ok (.iload_n 2, 1) := by decide +kernel
theorem dd_R_boxes_5 : decode cc_R_boxes 5 = .ok (.sipush 255, 3) := by decide +kernel
theorem dd_R_boxes_8 : decode cc_R_boxes 8 = .ok (.if_icmp .ge 74, 3) := by decide +kernel
theorem dd_R_boxes_11 : decode cc_R_boxes 11 = .ok (.iconst 1, 1) := by decide +kernel
theorem dd_R_boxes_12 : decode cc_R_boxes 12 = .ok (.istore_n 3, 1) := by decide +kernel
theorem dd_R_boxes_13 : decode cc_R_boxes 13 = .ok (.iload_n 1, 1) := by decide +kernel
theorem dd_R_boxes_14 : decode cc_R_boxes 14 = .ok (.istore 4, 2) := by decide +kernel
theorem dd_R_boxes_16 : decode cc_R_boxes 16 = .ok (.sipush 254, 3) := by decide +kernel
theorem dd_R_boxes_19 : decode cc_R_boxes 19 = .ok (.istore 5, 2) := by decide +kernel
theorem dd_R_boxes_21 : decode cc_R_boxes 21 = .ok (.iload 5, 2) := by decide +kernel
theorem dd_R_boxes_23 : decode cc_R_boxes 23 = .ok (.ifCond .le 40, 3) := by decide +kernel
theorem dd_R_boxes_26 : decode cc_R_boxes 26 = .ok (.iload 5, 2) := by decide +kernel
theorem dd_R_boxes_28 : decode cc_R_boxes 28 = .ok (.iconst 1, 1) := by decide +kernel
theorem dd_R_boxes_29 : decode cc_R_boxes 29 = .ok (.iand, 1) := by decide +kernel
theorem dd_R_boxes_30 : decode cc_R_boxes 30 = .ok (.iconst 1, 1) := by decide +kernel
theorem dd_R_boxes_31 : decode cc_R_boxes 31 = .ok (.if_icmp .ne 12, 3) := by decide +kernel
theorem dd_R_boxes_34 : decode cc_R_boxes 34 = .ok (.iload_n 3, 1) := by decide +kernel
theorem dd_R_boxes_35 : decode cc_R_boxes 35 = .ok (.iload 4, 2) := by decide +kernel
theorem dd_R_boxes_37 : decode cc_R_boxes 37 = .ok (.invokestatic 127, 3) := by decide +kernel
theorem dd_R_boxes_40 : decode cc_R_boxes 40 = .ok (.goto 4, 3) := by decide +kernel
theorem dd_R_boxes_43 : decode cc_R_boxes 43 = .ok (.iload_n 3, 1) := by decide +kernel
theorem dd_R_boxes_44 : decode cc_R_boxes 44 = .ok (.istore_n 3, 1) := by decide +kernel
theorem dd_R_boxes_45 : decode cc_R_boxes 45 = .ok (.iload 4, 2) := by decide +kernel
theorem dd_R_boxes_47 : decode cc_R_boxes 47 = .ok (.iload 4, 2) := by decide +kernel
theorem dd_R_boxes_49 : decode cc_R_boxes 49 = .ok (.invokestatic 127, 3) := by decide +kernel
theorem dd_R_boxes_52 : decode cc_R_boxes 52 = .ok (.istore 4, 2) := by decide +kernel
theorem dd_R_boxes_54 : decode cc_R_boxes 54 = .ok (.iload 5, 2) := by decide +kernel
theorem dd_R_boxes_56 : decode cc_R_boxes 56 = .ok (.iconst 1, 1) := by decide +kernel
theorem dd_R_boxes_57 : decode cc_R_boxes 57 = .ok (.ishr, 1) := by decide +kernel
theorem dd_R_boxes_58 : decode cc_R_boxes 58 = .ok (.istore 5, 2) := by decide +kernel
theorem dd_R_boxes_60 : decode cc_R_boxes 60 = .ok (.goto (-39), 3) := by decide +kernel
theorem dd_R_boxes_63 : decode cc_R_boxes 63 = .ok (.aload_n 0, 1) := by decide +kernel
theorem dd_R_boxes_64 : decode cc_R_boxes 64 = .ok (.iload_n 1, 1) := by decide +kernel
theorem dd_R_boxes_65 : decode cc_R_boxes 65 = .ok (.iload_n 3, 1) := by decide +kernel
theorem dd_R_boxes_66 : decode cc_R_boxes 66 = .ok (.invokevirtual 131, 3) := by decide +kernel
theorem dd_R_boxes_69 : decode cc_R_boxes 69 = .ok (.iload_n 1, 1) := by decide +kernel
theorem dd_R_boxes_70 : decode cc_R_boxes 70 = .ok (.iload_n 1, 1) := by decide +kernel
theorem dd_R_boxes_71 : decode cc_R_boxes 71 = .ok (.invokestatic 123, 3) := by decide +kernel
theorem dd_R_boxes_74 : decode cc_R_boxes 74 = .ok (.ixor, 1) := by decide +kernel
theorem dd_R_boxes_75 : decode cc_R_boxes 75 = .ok (.istore_n 1, 1) := by decide +kernel
theorem dd_R_boxes_76 : decode cc_R_boxes 76 = .ok (.iinc 2 1, 3) := by decide +kernel
theorem dd_R_boxes_79 : decode cc_R_boxes 79 = .ok (.goto (-75), 3) := by decide +kernel
theorem dd_R_boxes_82 : decode cc_R_boxes 82 = .ok (.aload_n 0, 1) := by decide +kernel
theorem dd_R_boxes_83 : decode cc_R_boxes 83 = .ok (.iconst 0, 1) := by decide +kernel
theorem dd_R_boxes_84 : decode cc_R_boxes 84 = .ok (.iconst 0, 1) := by decide +kernel
theorem dd_R_boxes_85 : decode cc_R_boxes 85 = .ok (.invokevirtual 131, 3) := by decide +kernel
theorem dd_R_boxes_88 : decode cc_R_boxes 88 = .ok (.return_, 1) := by decide +kernel
theorem dd_R_enter_0 : decode cc_R_enter 0 = .ok (.bipush 99, 2) := by decide +kernel
theorem dd_R_enter_2 : decode cc_R_enter 2 = .ok (.istore_n 3, 1) := by decide +kernel
theorem dd_R_enter_3 : decode cc_R_enter 3 = .ok (.iconst 0, 1) := by decide +kernel
theorem dd_R_enter_4 : decode cc_R_enter 4 = .ok (.istore 4, 2) := by decide +kernel
theorem dd_R_enter_6 : decode cc_R_enter 6 = .ok (.iload 4, 2) := by decide +kernel
theorem dd_R_enter_8 : decode cc_R_enter 8 = .ok (.iconst 5, 1) := by decide +kernel
theorem dd_R_enter_9 : decode cc_R_enter 9 = .ok (.if_icmp .ge 28, 3) := by decide +kernel
theorem dd_R_enter_12 : decode cc_R_enter 12 = .ok (.iload_n 3, 1) := by decide +kernel
theorem dd_R_enter_13 : decode cc_R_enter 13 = .ok (.iload_n 2, 1) := by decide +kernel
theorem dd_R_enter_14 : decode cc_R_enter 14 = .ok (.iload 4, 2) := by decide +kernel
theorem dd_R_enter_16 : decode cc_R_enter 16 = .ok (.ishl, 1) := by decide +kernel
theorem dd_R_enter_17 : decode cc_R_enter 17 = .ok (.iload_n 2, 1) := by decide +kernel
theorem dd_R_enter_18 : decode cc_R_enter 18 = .ok (.bipush 8, 2) := by decide +kernel
theorem dd_R_enter_20 : decode cc_R_enter 20 = .ok (.iload 4, 2) := by decide +kernel
theorem dd_R_enter_22 : decode cc_R_enter 22 = .ok (.isub, 1) := by decide +kernel
theorem dd_R_enter_23 : decode cc_R_enter 23 = .ok (.ishr, 1) := by decide +kernel
theorem dd_R_enter_24 : decode cc_R_enter 24 = .ok (.ior, 1) := by decide +kernel
theorem dd_R_enter_25 : decode cc_R_enter 25 = .ok (.sipush 255, 3) := by decide +kernel
theorem dd_R_enter_28 : decode cc_R_enter 28 = .ok (.iand, 1) := by decide +kernel
theorem dd_R_enter_29 : decode cc_R_enter 29 = .ok (.ixor, 1) := by decide +kernel
theorem dd_R_enter_30 : decode cc_R_enter 30 = .ok (.istore_n 3, 1) := by decide +kernel
theorem dd_R_enter_31 : decode cc_R_enter 31 = .ok (.iinc 4 1, 3) := by decide +kernel
theorem dd_R_enter_34 : decode cc_R_enter 34 = .ok (.goto (-28), 3) := by decide +kernel
theorem dd_R_enter_37 : decode cc_R_enter 37 = .ok (.aload_n 0, 1) := by decide +kernel
theorem dd_R_enter_38 : decode cc_R_enter 38 = .ok (.getfield 7, 3) := by decide +kernel
theorem dd_R_enter_41 : decode cc_R_enter 41 = .ok (.iload_n 1, 1) := by decide +kernel
theorem dd_R_enter_42 : decode cc_R_enter 42 = .ok (.iload_n 3, 1) := by decide +kernel
theorem dd_R_enter_43 : decode cc_R_enter 43 = .ok (.iastore, 1) := by decide +kernel
theorem dd_R_enter_44 : decode cc_R_enter 44 = .ok (.aload_n 0, 1) := by decide +kernel
theorem dd_R_enter_45 : decode cc_R_enter 45 = .ok (.getfield 13, 3) := by decide +kernel
theorem dd_R_enter_48 : decode cc_R_enter 48 = .ok (.iload_n 3, 1) := by decide +kernel
theorem dd_R_enter_49 : decode cc_R_enter 49 = .ok (.iload_n 1, 1) := by decide +kernel
theorem dd_R_enter_50 : decode cc_R_enter 50 = .ok (.iastore, 1) := by decide +kernel
theorem dd_R_enter_51 : decode cc_R_enter 51 = .ok (.return_, 1) := by decide +kernel
