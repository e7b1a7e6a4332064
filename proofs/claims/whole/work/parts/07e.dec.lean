theorem dd_R_begin_0 : decode cc_R_begin 0 = .ok (.aload_n 0, 1) := by decide +kernel
theorem dd_R_begin_1 : decode cc_R_begin 1 = .ok (.getfield 37, 3) := by decide +kernel
theorem dd_R_begin_4 : decode cc_R_begin 4 = .ok (.iload_n 1, 1) := by decide +kernel
theorem dd_R_begin_5 : decode cc_R_begin 5 = .ok (.iconst 0, 1) := by decide +kernel
theorem dd_R_begin_6 : decode cc_R_begin 6 = .ok (.iastore, 1) := by decide +kernel
theorem dd_R_begin_7 : decode cc_R_begin 7 = .ok (.aload_n 0, 1) := by decide +kernel
theorem dd_R_begin_8 : decode cc_R_begin 8 = .ok (.iload_n 1, 1) := by decide +kernel
theorem dd_R_begin_9 : decode cc_R_begin 9 = .ok (.iload_n 2, 1) := by decide +kernel
theorem dd_R_begin_10 : decode cc_R_begin 10 = .ok (.invokevirtual 155, 3) := by decide +kernel
theorem dd_R_begin_13 : decode cc_R_begin 13 = .ok (.aload_n 0, 1) := by decide +kernel
theorem dd_R_begin_14 : decode cc_R_begin 14 = .ok (.iload_n 1, 1) := by decide +kernel
theorem dd_R_begin_15 : decode cc_R_begin 15 = .ok (.iload_n 3, 1) := by decide +kernel
theorem dd_R_begin_16 : decode cc_R_begin 16 = .ok (.iconst 4, 1) := by decide +kernel
theorem dd_R_begin_17 : decode cc_R_begin 17 = .ok (.invokevirtual 179, 3) := by decide +kernel
theorem dd_R_begin_20 : decode cc_R_begin 20 = .ok (.aload_n 0, 1) := by decide +kernel
theorem dd_R_begin_21 : decode cc_R_begin 21 = .ok (.iload_n 1, 1) := by decide +kernel
theorem dd_R_begin_22 : decode cc_R_begin 22 = .ok (.iload 4, 2) := by decide +kernel
theorem dd_R_begin_24 : decode cc_R_begin 24 = .ok (.invokevirtual 155, 3) := by decide +kernel
theorem dd_R_begin_27 : decode cc_R_begin 27 = .ok (.aload_n 0, 1) := by decide +kernel
theorem dd_R_begin_28 : decode cc_R_begin 28 = .ok (.iload_n 1, 1) := by decide +kernel
theorem dd_R_begin_29 : decode cc_R_begin 29 = .ok (.iload 5, 2) := by decide +kernel
theorem dd_R_begin_31 : decode cc_R_begin 31 = .ok (.iconst 2, 1) := by decide +kernel
theorem dd_R_begin_32 : decode cc_R_begin 32 = .ok (.invokevirtual 179, 3) := by decide +kernel
theorem dd_R_begin_35 : decode cc_R_begin 35 = .ok (.return_, 1) := by decide +kernel
theorem dd_R_finish_0 : decode cc_R_finish 0 = .ok (.aload_n 0, 1) := by decide +kernel
theorem dd_R_finish_1 : decode cc_R_finish 1 = .ok (.lload_n 2, 1) := by decide +kernel
theorem dd_R_finish_2 : decode cc_R_finish 2 = .ok (.iload 4, 2) := by decide +kernel
theorem dd_R_finish_4 : decode cc_R_finish 4 = .ok (.iload 5, 2) := by decide +kernel
theorem dd_R_finish_6 : decode cc_R_finish 6 = .ok (.iconst 1, 1) := by decide +kernel
theorem dd_R_finish_7 : decode cc_R_finish 7 = .ok (.iadd, 1) := by decide +kernel
theorem dd_R_finish_8 : decode cc_R_finish 8 = .ok (.iload 6, 2) := by decide +kernel
theorem dd_R_finish_10 : decode cc_R_finish 10 = .ok (.iload 7, 2) := by decide +kernel
theorem dd_R_finish_12 : decode cc_R_finish 12 = .ok (.iload 8, 2) := by decide +kernel
theorem dd_R_finish_14 : decode cc_R_finish 14 = .ok (.invokevirtual 183, 3) := by decide +kernel
theorem dd_R_finish_17 : decode cc_R_finish 17 = .ok (.lstore 9, 2) := by decide +kernel
theorem dd_R_finish_19 : decode cc_R_finish 19 = .ok (.iload 4, 2) := by decide +kernel
theorem dd_R_finish_21 : decode cc_R_finish 21 = .ok (.ifCond .le 9, 3) := by decide +kernel
theorem dd_R_finish_24 : decode cc_R_finish 24 = .ok (.aload_n 0, 1) := by decide +kernel
theorem dd_R_finish_25 : decode cc_R_finish 25 = .ok (.iload_n 1, 1) := by decide +kernel
theorem dd_R_finish_26 : decode cc_R_finish 26 = .ok (.iconst 1, 1) := by decide +kernel
theorem dd_R_finish_27 : decode cc_R_finish 27 = .ok (.invokevirtual 155, 3) := by decide +kernel
theorem dd_R_finish_30 : decode cc_R_finish 30 = .ok (.iconst 0, 1) := by decide +kernel
theorem dd_R_finish_31 : decode cc_R_finish 31 = .ok (.istore 11, 2) := by decide +kernel
theorem dd_R_finish_33 : decode cc_R_finish 33 = .ok (.iload 11, 2) := by decide +kernel
theorem dd_R_finish_35 : decode cc_R_finish 35 = .ok (.iload 4, 2) := by decide +kernel
theorem dd_R_finish_37 : decode cc_R_finish 37 = .ok (.if_icmp .ge 27, 3) := by decide +kernel
theorem dd_R_finish_40 : decode cc_R_finish 40 = .ok (.aload_n 0, 1) := by decide +kernel
theorem dd_R_finish_41 : decode cc_R_finish 41 = .ok (.iload_n 1, 1) := by decide +kernel
theorem dd_R_finish_42 : decode cc_R_finish 42 = .ok (.lload 9, 2) := by decide +kernel
theorem dd_R_finish_44 : decode cc_R_finish 44 = .ok (.bipush 8, 2) := by decide +kernel
theorem dd_R_finish_46 : decode cc_R_finish 46 = .ok (.iload 11, 2) := by decide +kernel
theorem dd_R_finish_48 : decode cc_R_finish 48 = .ok (.imul, 1) := by decide +kernel
theorem dd_R_finish_49 : decode cc_R_finish 49 = .ok (.lshr, 1) := by decide +kernel
theorem dd_R_finish_50 : decode cc_R_finish 50 = .ok (.ldc2_w 177, 3) := by decide +kernel
theorem dd_R_finish_53 : decode cc_R_finish 53 = .ok (.land, 1) := by decide +kernel
theorem dd_R_finish_54 : decode cc_R_finish 54 = .ok (.l2i, 1) := by decide +kernel
theorem dd_R_finish_55 : decode cc_R_finish 55 = .ok (.invokevirtual 155, 3) := by decide +kernel
theorem dd_R_finish_58 : decode cc_R_finish 58 = .ok (.iinc 11 1, 3) := by decide +kernel
theorem dd_R_finish_61 : decode cc_R_finish 61 = .ok (.goto (-28), 3) := by decide +kernel
theorem dd_R_finish_64 : decode cc_R_finish 64 = .ok (.aload_n 0, 1) := by decide +kernel
theorem dd_R_finish_65 : decode cc_R_finish 65 = .ok (.getfield 37, 3) := by decide +kernel
theorem dd_R_finish_68 : decode cc_R_finish 68 = .ok (.iload_n 1, 1) := by decide +kernel
theorem dd_R_finish_69 : decode cc_R_finish 69 = .ok (.iaload, 1) := by decide +kernel
theorem dd_R_finish_70 : decode cc_R_finish 70 = .ok (.istore 11, 2) := by decide +kernel
theorem dd_R_finish_72 : decode cc_R_finish 72 = .ok (.aload_n 0, 1) := by decide +kernel
theorem dd_R_finish_73 : decode cc_R_finish 73 = .ok (.iload_n 1, 1) := by decide +kernel
theorem dd_R_finish_74 : decode cc_R_finish 74 = .ok (.iload 11, 2) := by decide +kernel
theorem dd_R_finish_76 : decode cc_R_finish 76 = .ok (.iload 5, 2) := by decide +kernel
theorem dd_R_finish_78 : decode cc_R_finish 78 = .ok (.iload 6, 2) := by decide +kernel
theorem dd_R_finish_80 : decode cc_R_finish 80 = .ok (.iload 7, 2) := by decide +kernel
theorem dd_R_finish_82 : decode cc_R_finish 82 = .ok (.iload 8, 2) := by decide +kernel
theorem dd_R_finish_84 : decode cc_R_finish 84 = .ok (.invokevirtual 187, 3) := by decide +kernel
theorem dd_R_finish_87 : decode cc_R_finish 87 = .ok (.iconst 0, 1) := by decide +kernel
theorem dd_R_finish_88 : decode cc_R_finish 88 = .ok (.istore 12, 2) := by decide +kernel
theorem dd_R_finish_90 : decode cc_R_finish 90 = .ok (.iload 12, 2) := by decide +kernel
theorem dd_R_finish_92 : decode cc_R_finish 92 = .ok (.iconst 4, 1) := by decide +kernel
theorem dd_R_finish_93 : decode cc_R_finish 93 = .ok (.if_icmp .ge 21, 3) := by decide +kernel
theorem dd_R_finish_96 : decode cc_R_finish 96 = .ok (.aload_n 0, 1) := by decide +kernel
theorem dd_R_finish_97 : decode cc_R_finish 97 = .ok (.iload_n 1, 1) := by decide +kernel
theorem dd_R_finish_98 : decode cc_R_finish 98 = .ok (.aload_n 0, 1) := by decide +kernel
theorem dd_R_finish_99 : decode cc_R_finish 99 = .ok (.getfield 25, 3) := by decide +kernel
theorem dd_R_finish_102 : decode cc_R_finish 102 = .ok (.iload 12, 2) := by decide +kernel
theorem dd_R_finish_104 : decode cc_R_finish 104 = .ok (.iaload, 1) := by decide +kernel
theorem dd_R_finish_105 : decode cc_R_finish 105 = .ok (.invokevirtual 155, 3) := by decide +kernel
theorem dd_R_finish_108 : decode cc_R_finish 108 = .ok (.iinc 12 1, 3) := by decide +kernel
theorem dd_R_finish_111 : decode cc_R_finish 111 = .ok (.goto (-21), 3) := by decide +kernel
theorem dd_R_finish_114 : decode cc_R_finish 114 = .ok (.return_, 1) := by decide +kernel
theorem dd_R_payloadOf_0 : decode cc_R_payloadOf 0 = .ok (.aload_n 0, 1) := by decide +kernel
theorem dd_R_payloadOf_1 : decode cc_R_payloadOf 1 = .ok (.getfield 37, 3) := by decide +kernel
theorem dd_R_payloadOf_4 : decode cc_R_payloadOf 4 = .ok (.iload_n 1, 1) := by decide +kernel
theorem dd_R_payloadOf_5 : decode cc_R_payloadOf 5 = .ok (.iaload, 1) := by decide +kernel
theorem dd_R_payloadOf_6 : decode cc_R_payloadOf 6 = .ok (.bipush 12, 2) := by decide +kernel
theorem dd_R_payloadOf_8 : decode cc_R_payloadOf 8 = .ok (.if_icmp .ge 7, 3) := by decide +kernel
theorem dd_R_payloadOf_11 : decode cc_R_payloadOf 11 = .ok (.iconst (-1), 1) := by decide +kernel
theorem dd_R_payloadOf_12 : decode cc_R_payloadOf 12 = .ok (.goto 22, 3) := by decide +kernel
theorem dd_R_payloadOf_15 : decode cc_R_payloadOf 15 = .ok (.aload_n 0, 1) := by decide +kernel
theorem dd_R_payloadOf_16 : decode cc_R_payloadOf 16 = .ok (.getfield 37, 3) := by decide +kernel
theorem dd_R_payloadOf_19 : decode cc_R_payloadOf 19 = .ok (.iload_n 1, 1) := by decide +kernel
theorem dd_R_payloadOf_20 : decode cc_R_payloadOf 20 = .ok (.iaload, 1) := by decide +kernel
theorem dd_R_payloadOf_21 : decode cc_R_payloadOf 21 = .ok (.bipush 12, 2) := by decide +kernel
theorem dd_R_payloadOf_23 : decode cc_R_payloadOf 23 = .ok (.isub, 1) := by decide +kernel
theorem dd_R_payloadOf_24 : decode cc_R_payloadOf 24 = .ok (.aload_n 0, 1) := by decide +kernel
theorem dd_R_payloadOf_25 : decode cc_R_payloadOf 25 = .ok (.iload_n 1, 1) := by decide +kernel
theorem dd_R_payloadOf_26 : decode cc_R_payloadOf 26 = .ok (.iconst 5, 1) := by decide +kernel
theorem dd_R_payloadOf_27 : decode cc_R_payloadOf 27 = .ok (.invokevirtual 158, 3) := by decide +kernel
theorem dd_R_payloadOf_30 : decode cc_R_payloadOf 30 = .ok (.bipush 16, 2) := by decide +kernel
theorem dd_R_payloadOf_32 : decode cc_R_payloadOf 32 = .ok (.irem, 1) := by decide +kernel
theorem dd_R_payloadOf_33 : decode cc_R_payloadOf 33 = .ok (.isub, 1) := by decide +kernel
theorem dd_R_payloadOf_34 : decode cc_R_payloadOf 34 = .ok (.istore_n 2, 1) := by decide +kernel
theorem dd_R_payloadOf_35 : decode cc_R_payloadOf 35 = .ok (.iload_n 2, 1) := by decide +kernel
theorem dd_R_payloadOf_36 : decode cc_R_payloadOf 36 = .ok (.ifCond .ne 7, 3) := by decide +kernel
theorem dd_R_payloadOf_39 : decode cc_R_payloadOf 39 = .ok (.iconst 0, 1) := by decide +kernel
theorem dd_R_payloadOf_40 : decode cc_R_payloadOf 40 = .ok (.goto 21, 3) := by decide +kernel
theorem dd_R_payloadOf_43 : decode cc_R_payloadOf 43 = .ok (.iload_n 2, 1) := by decide +kernel
theorem dd_R_payloadOf_44 : decode cc_R_payloadOf 44 = .ok (.iconst 2, 1) := by decide +kernel
theorem dd_R_payloadOf_45 : decode cc_R_payloadOf 45 = .ok (.if_icmp .lt 15, 3) := by decide +kernel
theorem dd_R_payloadOf_48 : decode cc_R_payloadOf 48 = .ok (.iload_n 2, 1) := by decide +kernel
theorem dd_R_payloadOf_49 : decode cc_R_payloadOf 49 = .ok (.bipush 9, 2) := by decide +kernel
theorem dd_R_payloadOf_51 : decode cc_R_payloadOf 51 = .ok (.if_icmp .gt 9, 3) := by decide +kernel
theorem dd_R_payloadOf_54 : decode cc_R_payloadOf 54 = .ok (.iload_n 2, 1) := by decide +kernel
theorem dd_R_payloadOf_55 : decode cc_R_payloadOf 55 = .ok (.iconst 1, 1) := by decide +kernel
theorem dd_R_payloadOf_56 : decode cc_R_payloadOf 56 = .ok (.isub, 1) := by decide +kernel
theorem dd_R_payloadOf_57 : decode cc_R_payloadOf 57 = .ok (.goto 4, 3) := by decide +kernel
theorem dd_R_payloadOf_60 : decode cc_R_payloadOf 60 = .ok (.iconst (-1), 1) := by decide +kernel
theorem dd_R_payloadOf_61 : decode cc_R_payloadOf 61 = .ok (.ireturn, 1) := by decide +kernel
theorem dd_R_payloadAt_0 : decode cc_R_payloadAt 0 = .ok (.lconst 0, 1) := by decide +kernel
theorem dd_R_payloadAt_1 : decode cc_R_payloadAt 1 = .ok (.lstore_n 3, 1) := by decide +kernel
theorem dd_R_payloadAt_2 : decode cc_R_payloadAt 2 = .ok (.iconst 0, 1) := by decide +kernel
theorem dd_R_payloadAt_3 : decode cc_R_payloadAt 3 = .ok (.istore 5, 2) := by decide +kernel
theorem dd_R_payloadAt_5 : decode cc_R_payloadAt 5 = .ok (.iload 5, 2) := by decide +kernel
theorem dd_R_payloadAt_7 : decode cc_R_payloadAt 7 = .ok (.iload_n 2, 1) := by decide +kernel
theorem dd_R_payloadAt_8 : decode cc_R_payloadAt 8 = .ok (.if_icmp .ge 39, 3) := by decide +kernel
theorem dd_R_payloadAt_11 : decode cc_R_payloadAt 11 = .ok (.lload_n 3, 1) := by decide +kernel
theorem dd_R_payloadAt_12 : decode cc_R_payloadAt 12 = .ok (.aload_n 0, 1) := by decide +kernel
theorem dd_R_payloadAt_13 : decode cc_R_payloadAt 13 = .ok (.iload_n 1, 1) := by decide +kernel
theorem dd_R_payloadAt_14 : decode cc_R_payloadAt 14 = .ok (.bipush 9, 2) := by decide +kernel
theorem dd_R_payloadAt_16 : decode cc_R_payloadAt 16 = .ok (.aload_n 0, 1) := by decide +kernel
theorem dd_R_payloadAt_17 : decode cc_R_payloadAt 17 = .ok (.iload_n 1, 1) := by decide +kernel
theorem dd_R_payloadAt_18 : decode cc_R_payloadAt 18 = .ok (.iconst 5, 1) := by decide +kernel
theorem dd_R_payloadAt_19 : decode cc_R_payloadAt 19 = .ok (.invokevirtual 158, 3) := by decide +kernel
theorem dd_R_payloadAt_22 : decode cc_R_payloadAt 22 = .ok (.bipush 16, 2) := by decide +kernel
theorem dd_R_payloadAt_24 : decode cc_R_payloadAt 24 = .ok (.irem, 1) := by decide +kernel
theorem dd_R_payloadAt_25 : decode cc_R_payloadAt 25 = .ok (.iadd, 1) := by decide +kernel
theorem dd_R_payloadAt_26 : decode cc_R_payloadAt 26 = .ok (.iload 5, 2) := by decide +kernel
theorem dd_R_payloadAt_28 : decode cc_R_payloadAt 28 = .ok (.iadd, 1) := by decide +kernel
theorem dd_R_payloadAt_29 : decode cc_R_payloadAt 29 = .ok (.invokevirtual 158, 3) := by decide +kernel
theorem dd_R_payloadAt_32 : decode cc_R_payloadAt 32 = .ok (.i2l, 1) := by decide +kernel
theorem dd_R_payloadAt_33 : decode cc_R_payloadAt 33 = .ok (.bipush 8, 2) := by decide +kernel
theorem dd_R_payloadAt_35 : decode cc_R_payloadAt 35 = .ok (.iload 5, 2) := by decide +kernel
theorem dd_R_payloadAt_37 : decode cc_R_payloadAt 37 = .ok (.imul, 1) := by decide +kernel
theorem dd_R_payloadAt_38 : decode cc_R_payloadAt 38 = .ok (.lshl, 1) := by decide +kernel
theorem dd_R_payloadAt_39 : decode cc_R_payloadAt 39 = .ok (.lor, 1) := by decide +kernel
theorem dd_R_payloadAt_40 : decode cc_R_payloadAt 40 = .ok (.lstore_n 3, 1) := by decide +kernel
theorem dd_R_payloadAt_41 : decode cc_R_payloadAt 41 = .ok (.iinc 5 1, 3) := by decide +kernel
theorem dd_R_payloadAt_44 : decode cc_R_payloadAt 44 = .ok (.goto (-39), 3) := by decide +kernel
theorem dd_R_payloadAt_47 : decode cc_R_payloadAt 47 = .ok (.lload_n 3, 1) := by decide +kernel
theorem dd_R_payloadAt_48 : decode cc_R_payloadAt 48 = .ok (.lreturn, 1) := by decide +kernel
theorem dd_R_receive_0 : decode cc_R_receive 0 = .ok (.aload_n 0, 1) := by decide +kernel
theorem dd_R_receive_1 : decode cc_R_receive 1 = .ok (.getfield 114, 3) := by decide +kernel
theorem dd_R_receive_4 : decode cc_R_receive 4 = .ok (.iconst 4, 1) := by decide +kernel
theorem dd_R_receive_5 : decode cc_R_receive 5 = .ok (.iload_n 1, 1) := by decide +kernel
theorem dd_R_receive_6 : decode cc_R_receive 6 = .ok (.imul, 1) := by decide +kernel
theorem dd_R_receive_7 : decode cc_R_receive 7 = .ok (.aload_n 0, 1) := by decide +kernel
theorem dd_R_receive_8 : decode cc_R_receive 8 = .ok (.getfield 111, 3) := by decide +kernel
theorem dd_R_receive_11 : decode cc_R_receive 11 = .ok (.iload_n 1, 1) := by decide +kernel
theorem dd_R_receive_12 : decode cc_R_receive 12 = .ok (.iaload, 1) := by decide +kernel
theorem dd_R_receive_13 : decode cc_R_receive 13 = .ok (.iconst 4, 1) := by decide +kernel
theorem dd_R_receive_14 : decode cc_R_receive 14 = .ok (.irem, 1) := by decide +kernel
theorem dd_R_receive_15 : decode cc_R_receive 15 = .ok (.iadd, 1) := by decide +kernel
theorem dd_R_receive_16 : decode cc_R_receive 16 = .ok (.lload_n 2, 1) := by decide +kernel
theorem dd_R_receive_17 : decode cc_R_receive 17 = .ok (.lastore, 1) := by decide +kernel
theorem dd_R_receive_18 : decode cc_R_receive 18 = .ok (.aload_n 0, 1) := by decide +kernel
theorem dd_R_receive_19 : decode cc_R_receive 19 = .ok (.getfield 111, 3) := by decide +kernel
theorem dd_R_receive_22 : decode cc_R_receive 22 = .ok (.iload_n 1, 1) := by decide +kernel
theorem dd_R_receive_23 : decode cc_R_receive 23 = .ok (.dup2, 1) := by decide +kernel
theorem dd_R_receive_24 : decode cc_R_receive 24 = .ok (.iaload, 1) := by decide +kernel
theorem dd_R_receive_25 : decode cc_R_receive 25 = .ok (.iconst 1, 1) := by decide +kernel
theorem dd_R_receive_26 : decode cc_R_receive 26 = .ok (.iadd, 1) := by decide +kernel
theorem dd_R_receive_27 : decode cc_R_receive 27 = .ok (.iastore, 1) := by decide +kernel
theorem dd_R_receive_28 : decode cc_R_receive 28 = .ok (.return_, 1) := by decide +kernel
theorem dd_R_below_0 : decode cc_R_below 0 = .ok (.iload_n 0, 1) := by decide +kernel
theorem dd_R_below_1 : decode cc_R_below 1 = .ok (.ifCond .lt 12, 3) := by decide +kernel
theorem dd_R_below_4 : decode cc_R_below 4 = .ok (.iload_n 0, 1) := by decide +kernel
theorem dd_R_below_5 : decode cc_R_below 5 = .ok (.iload_n 1, 1) := by decide +kernel
theorem dd_R_below_6 : decode cc_R_below 6 = .ok (.if_icmp .ge 7, 3) := by decide +kernel
theorem dd_R_below_9 : decode cc_R_below 9 = .ok (.iconst 1, 1) := by decide +kernel
theorem dd_R_below_10 : decode cc_R_below 10 = .ok (.goto 4, 3) := by decide +kernel
theorem dd_R_below_13 : decode cc_R_below 13 = .ok (.iconst 0, 1) := by decide +kernel
theorem dd_R_below_14 : decode cc_R_below 14 = .ok (.ireturn, 1) := by decide +kernel
theorem dd_R_transmit_0 : decode cc_R_transmit 0 = .ok (.aload_n 0, 1) := by decide +kernel
theorem dd_R_transmit_1 : decode cc_R_transmit 1 = .ok (.getfield 40, 3) := by decide +kernel
theorem dd_R_transmit_4 : decode cc_R_transmit 4 = .ok (.bipush 20, 2) := by decide +kernel
theorem dd_R_transmit_6 : decode cc_R_transmit 6 = .ok (.iload_n 1, 1) := by decide +kernel
theorem dd_R_transmit_7 : decode cc_R_transmit 7 = .ok (.iadd, 1) := by decide +kernel
theorem dd_R_transmit_8 : decode cc_R_transmit 8 = .ok (.iconst 3, 1) := by decide +kernel
theorem dd_R_transmit_9 : decode cc_R_transmit 9 = .ok (.iastore, 1) := by decide +kernel
theorem dd_R_transmit_10 : decode cc_R_transmit 10 = .ok (.aload_n 0, 1) := by decide +kernel
theorem dd_R_transmit_11 : decode cc_R_transmit 11 = .ok (.getfield 46, 3) := by decide +kernel
theorem dd_R_transmit_14 : decode cc_R_transmit 14 = .ok (.iload_n 1, 1) := by decide +kernel
theorem dd_R_transmit_15 : decode cc_R_transmit 15 = .ok (.iconst 1, 1) := by decide +kernel
theorem dd_R_transmit_16 : decode cc_R_transmit 16 = .ok (.bastore, 1) := by decide +kernel
theorem dd_R_transmit_17 : decode cc_R_transmit 17 = .ok (.aload_n 0, 1) := by decide +kernel
theorem dd_R_transmit_18 : decode cc_R_transmit 18 = .ok (.getfield 50, 3) := by decide +kernel
theorem dd_R_transmit_21 : decode cc_R_transmit 21 = .ok (.iload_n 1, 1) := by decide +kernel
theorem dd_R_transmit_22 : decode cc_R_transmit 22 = .ok (.aload_n 0, 1) := by decide +kernel
theorem dd_R_transmit_23 : decode cc_R_transmit 23 = .ok (.getfield 191, 3) := by decide +kernel
theorem dd_R_transmit_26 : decode cc_R_transmit 26 = .ok (.iastore, 1) := by decide +kernel
theorem dd_R_transmit_27 : decode cc_R_transmit 27 = .ok (.aload_n 0, 1) := by decide +kernel
theorem dd_R_transmit_28 : decode cc_R_transmit 28 = .ok (.getfield 53, 3) := by decide +kernel
theorem dd_R_transmit_31 : decode cc_R_transmit 31 = .ok (.iload_n 1, 1) := by decide +kernel
theorem dd_R_transmit_32 : decode cc_R_transmit 32 = .ok (.dup2, 1) := by decide +kernel
theorem dd_R_transmit_33 : decode cc_R_transmit 33 = .ok (.iaload, 1) := by decide +kernel
theorem dd_R_transmit_34 : decode cc_R_transmit 34 = .ok (.iconst 1, 1) := by decide +kernel
theorem dd_R_transmit_35 : decode cc_R_transmit 35 = .ok (.iadd, 1) := by decide +kernel
theorem dd_R_transmit_36 : decode cc_R_transmit 36 = .ok (.iastore, 1) := by decide +kernel
theorem dd_R_transmit_37 : decode cc_R_transmit 37 = .ok (.aload_n 0, 1) := by decide +kernel
theorem dd_R_transmit_38 : decode cc_R_transmit 38 = .ok (.bipush 20, 2) := by decide +kernel
theorem dd_R_transmit_40 : decode cc_R_transmit 40 = .ok (.iload_n 1, 1) := by decide +kernel
theorem dd_R_transmit_41 : decode cc_R_transmit 41 = .ok (.iadd, 1) := by decide +kernel
theorem dd_R_transmit_42 : decode cc_R_transmit 42 = .ok (.invokevirtual 194, 3) := by decide +kernel
theorem dd_R_transmit_45 : decode cc_R_transmit 45 = .ok (.return_, 1) := by decide +kernel
theorem dd_R_join_0 : decode cc_R_join 0 = .ok (.iload_n 1, 1) := by decide +kernel
theorem dd_R_join_1 : decode cc_R_join 1 = .ok (.iconst 3, 1) := by decide +kernel
theorem dd_R_join_2 : decode cc_R_join 2 = .ok (.invokestatic 197, 3) := by decide +kernel
theorem dd_R_join_5 : decode cc_R_join 5 = .ok (.ifCond .eq 23, 3) := by decide +kernel
theorem dd_R_join_8 : decode cc_R_join 8 = .ok (.aload_n 0, 1) := by decide +kernel
theorem dd_R_join_9 : decode cc_R_join 9 = .ok (.getfield 46, 3) := by decide +kernel
theorem dd_R_join_12 : decode cc_R_join 12 = .ok (.iload_n 1, 1) := by decide +kernel
theorem dd_R_join_13 : decode cc_R_join 13 = .ok (.baload, 1) := by decide +kernel
theorem dd_R_join_14 : decode cc_R_join 14 = .ok (.ifCond .ne 14, 3) := by decide +kernel
theorem dd_R_join_17 : decode cc_R_join 17 = .ok (.aload_n 0, 1) := by decide +kernel
theorem dd_R_join_18 : decode cc_R_join 18 = .ok (.getfield 56, 3) := by decide +kernel
theorem dd_R_join_21 : decode cc_R_join 21 = .ok (.iload_n 1, 1) := by decide +kernel
theorem dd_R_join_22 : decode cc_R_join 22 = .ok (.iaload, 1) := by decide +kernel
theorem dd_R_join_23 : decode cc_R_join 23 = .ok (.ldc 201, 2) := by decide +kernel
theorem dd_R_join_25 : decode cc_R_join 25 = .ok (.if_icmp .ne 5, 3) := by decide +kernel
theorem dd_R_join_28 : decode cc_R_join 28 = .ok (.iconst (-1), 1) := by decide +kernel
theorem dd_R_join_29 : decode cc_R_join 29 = .ok (.ireturn, 1) := by decide +kernel
theorem dd_R_join_30 : decode cc_R_join 30 = .ok (.bipush 20, 2) := by decide +kernel
theorem dd_R_join_32 : decode cc_R_join 32 = .ok (.iload_n 1, 1) := by decide +kernel
theorem dd_R_join_33 : decode cc_R_join 33 = .ok (.iadd, 1) := by decide +kernel
theorem dd_R_join_34 : decode cc_R_join 34 = .ok (.istore_n 2, 1) := by decide +kernel
theorem dd_R_join_35 : decode cc_R_join 35 = .ok (.aload_n 0, 1) := by decide +kernel
theorem dd_R_join_36 : decode cc_R_join 36 = .ok (.getfield 56, 3) := by decide +kernel
theorem dd_R_join_39 : decode cc_R_join 39 = .ok (.iload_n 1, 1) := by decide +kernel
theorem dd_R_join_40 : decode cc_R_join 40 = .ok (.dup2, 1) := by decide +kernel
theorem dd_R_join_41 : decode cc_R_join 41 = .ok (.iaload, 1) := by decide +kernel
theorem dd_R_join_42 : decode cc_R_join 42 = .ok (.iconst 1, 1) := by decide +kernel
theorem dd_R_join_43 : decode cc_R_join 43 = .ok (.iadd, 1) := by decide +kernel
theorem dd_R_join_44 : decode cc_R_join 44 = .ok (.iastore, 1) := by decide +kernel
theorem dd_R_join_45 : decode cc_R_join 45 = .ok (.aload_n 0, 1) := by decide +kernel
theorem dd_R_join_46 : decode cc_R_join 46 = .ok (.getfield 43, 3) := by decide +kernel
theorem dd_R_join_49 : decode cc_R_join 49 = .ok (.iload_n 1, 1) := by decide +kernel
theorem dd_R_join_50 : decode cc_R_join 50 = .ok (.iconst 1, 1) := by decide +kernel
theorem dd_R_join_51 : decode cc_R_join 51 = .ok (.iastore, 1) := by decide +kernel
theorem dd_R_join_52 : decode cc_R_join 52 = .ok (.aload_n 0, 1) := by decide +kernel
theorem dd_R_join_53 : decode cc_R_join 53 = .ok (.getfield 37, 3) := by decide +kernel
theorem dd_R_join_56 : decode cc_R_join 56 = .ok (.iload_n 2, 1) := by decide +kernel
theorem dd_R_join_57 : decode cc_R_join 57 = .ok (.iconst 0, 1) := by decide +kernel
theorem dd_R_join_58 : decode cc_R_join 58 = .ok (.iastore, 1) := by decide +kernel
theorem dd_R_join_59 : decode cc_R_join 59 = .ok (.iconst 0, 1) := by decide +kernel
theorem dd_R_join_60 : decode cc_R_join 60 = .ok (.istore_n 3, 1) := by decide +kernel
theorem dd_R_join_61 : decode cc_R_join 61 = .ok (.iload_n 3, 1) := by decide +kernel
theorem dd_R_join_62 : decode cc_R_join 62 = .ok (.bipush 9, 2) := by decide +kernel
theorem dd_R_join_64 : decode cc_R_join 64 = .ok (.if_icmp .ge 15, 3) := by decide +kernel
theorem dd_R_join_67 : decode cc_R_join 67 = .ok (.aload_n 0, 1) := by decide +kernel
theorem dd_R_join_68 : decode cc_R_join 68 = .ok (.iload_n 2, 1) := by decide +kernel
theorem dd_R_join_69 : decode cc_R_join 69 = .ok (.iconst 0, 1) := by decide +kernel
theorem dd_R_join_70 : decode cc_R_join 70 = .ok (.invokevirtual 155, 3) := by decide +kernel
theorem dd_R_join_73 : decode cc_R_join 73 = .ok (.iinc 3 1, 3) := by decide +kernel
theorem dd_R_join_76 : decode cc_R_join 76 = .ok (.goto (-15), 3) := by decide +kernel
theorem dd_R_join_79 : decode cc_R_join 79 = .ok (.aload_n 0, 1) := by decide +kernel
theorem dd_R_join_80 : decode cc_R_join 80 = .ok (.iload_n 2, 1) := by decide +kernel
theorem dd_R_join_81 : decode cc_R_join 81 = .ok (.iload_n 1, 1) := by decide +kernel
theorem dd_R_join_82 : decode cc_R_join 82 = .ok (.iconst 4, 1) := by decide +kernel
theorem dd_R_join_83 : decode cc_R_join 83 = .ok (.invokevirtual 179, 3) := by decide +kernel
theorem dd_R_join_86 : decode cc_R_join 86 = .ok (.aload_n 0, 1) := by decide +kernel
theorem dd_R_join_87 : decode cc_R_join 87 = .ok (.iload_n 2, 1) := by decide +kernel
theorem dd_R_join_88 : decode cc_R_join 88 = .ok (.iconst 0, 1) := by decide +kernel
theorem dd_R_join_89 : decode cc_R_join 89 = .ok (.iconst 4, 1) := by decide +kernel
theorem dd_R_join_90 : decode cc_R_join 90 = .ok (.invokevirtual 179, 3) := by decide +kernel
theorem dd_R_join_93 : decode cc_R_join 93 = .ok (.aload_n 0, 1) := by decide +kernel
theorem dd_R_join_94 : decode cc_R_join 94 = .ok (.iload_n 2, 1) := by decide +kernel
theorem dd_R_join_95 : decode cc_R_join 95 = .ok (.aload_n 0, 1) := by decide +kernel
theorem dd_R_join_96 : decode cc_R_join 96 = .ok (.getfield 56, 3) := by decide +kernel
theorem dd_R_join_99 : decode cc_R_join 99 = .ok (.iload_n 1, 1) := by decide +kernel
theorem dd_R_join_100 : decode cc_R_join 100 = .ok (.iaload, 1) := by decide +kernel
theorem dd_R_join_101 : decode cc_R_join 101 = .ok (.iconst 2, 1) := by decide +kernel
theorem dd_R_join_102 : decode cc_R_join 102 = .ok (.invokevirtual 179, 3) := by decide +kernel
theorem dd_R_join_105 : decode cc_R_join 105 = .ok (.aload_n 0, 1) := by decide +kernel
theorem dd_R_join_106 : decode cc_R_join 106 = .ok (.iload_n 2, 1) := by decide +kernel
theorem dd_R_join_107 : decode cc_R_join 107 = .ok (.bipush 19, 2) := by decide +kernel
theorem dd_R_join_109 : decode cc_R_join 109 = .ok (.iload_n 1, 1) := by decide +kernel
theorem dd_R_join_110 : decode cc_R_join 110 = .ok (.invokevirtual 202, 3) := by decide +kernel
theorem dd_R_join_113 : decode cc_R_join 113 = .ok (.iconst 0, 1) := by decide +kernel
theorem dd_R_join_114 : decode cc_R_join 114 = .ok (.istore_n 3, 1) := by decide +kernel
theorem dd_R_join_115 : decode cc_R_join 115 = .ok (.iload_n 3, 1) := by decide +kernel
theorem dd_R_join_116 : decode cc_R_join 116 = .ok (.iconst 4, 1) := by decide +kernel
theorem dd_R_join_117 : decode cc_R_join 117 = .ok (.if_icmp .ge 20, 3) := by decide +kernel
theorem dd_R_join_120 : decode cc_R_join 120 = .ok (.aload_n 0, 1) := by decide +kernel
theorem dd_R_join_121 : decode cc_R_join 121 = .ok (.iload_n 2, 1) := by decide +kernel
theorem dd_R_join_122 : decode cc_R_join 122 = .ok (.aload_n 0, 1) := by decide +kernel
theorem dd_R_join_123 : decode cc_R_join 123 = .ok (.getfield 25, 3) := by decide +kernel
theorem dd_R_join_126 : decode cc_R_join 126 = .ok (.iload_n 3, 1) := by decide +kernel
theorem dd_R_join_127 : decode cc_R_join 127 = .ok (.iaload, 1) := by decide +kernel
theorem dd_R_join_128 : decode cc_R_join 128 = .ok (.invokevirtual 155, 3) := by decide +kernel
theorem dd_R_join_131 : decode cc_R_join 131 = .ok (.iinc 3 1, 3) := by decide +kernel
theorem dd_R_join_134 : decode cc_R_join 134 = .ok (.goto (-19), 3) := by decide +kernel
theorem dd_R_join_137 : decode cc_R_join 137 = .ok (.aload_n 0, 1) := by decide +kernel
theorem dd_R_join_138 : decode cc_R_join 138 = .ok (.getfield 53, 3) := by decide +kernel
theorem dd_R_join_141 : decode cc_R_join 141 = .ok (.iload_n 1, 1) := by decide +kernel
theorem dd_R_join_142 : decode cc_R_join 142 = .ok (.iconst 0, 1) := by decide +kernel
theorem dd_R_join_143 : decode cc_R_join 143 = .ok (.iastore, 1) := by decide +kernel
theorem dd_R_join_144 : decode cc_R_join 144 = .ok (.aload_n 0, 1) := by decide +kernel
theorem dd_R_join_145 : decode cc_R_join 145 = .ok (.iload_n 1, 1) := by decide +kernel
theorem dd_R_join_146 : decode cc_R_join 146 = .ok (.invokevirtual 205, 3) := by decide +kernel
theorem dd_R_join_149 : decode cc_R_join 149 = .ok (.aload_n 0, 1) := by decide +kernel
theorem dd_R_join_150 : decode cc_R_join 150 = .ok (.getfield 56, 3) := by decide +kernel
theorem dd_R_join_153 : decode cc_R_join 153 = .ok (.iload_n 1, 1) := by decide +kernel
theorem dd_R_join_154 : decode cc_R_join 154 = .ok (.iaload, 1) := by decide +kernel
theorem dd_R_join_155 : decode cc_R_join 155 = .ok (.ireturn, 1) := by decide +kernel
theorem dd_R_send_0 : decode cc_R_send 0 = .ok (.iload_n 1, 1) := by decide +kernel
theorem dd_R_send_1 : decode cc_R_send 1 = .ok (.iconst 3, 1) := by decide +kernel
theorem dd_R_send_2 : decode cc_R_send 2 = .ok (.invokestatic 197, 3) := by decide +kernel
theorem dd_R_send_5 : decode cc_R_send 5 = .ok (.ifCond .eq 34, 3) := by decide +kernel
theorem dd_R_send_8 : decode cc_R_send 8 = .ok (.aload_n 0, 1) := by decide +kernel
theorem dd_R_send_9 : decode cc_R_send 9 = .ok (.getfield 43, 3) := by decide +kernel
theorem dd_R_send_12 : decode cc_R_send 12 = .ok (.iload_n 1, 1) := by decide +kernel
theorem dd_R_send_13 : decode cc_R_send 13 = .ok (.iaload, 1) := by decide +kernel
theorem dd_R_send_14 : decode cc_R_send 14 = .ok (.iconst 2, 1) := by decide +kernel
theorem dd_R_send_15 : decode cc_R_send 15 = .ok (.if_icmp .ne 24, 3) := by decide +kernel
theorem dd_R_send_18 : decode cc_R_send 18 = .ok (.aload_n 0, 1) := by decide +kernel
theorem dd_R_send_19 : decode cc_R_send 19 = .ok (.getfield 46, 3) := by decide +kernel
theorem dd_R_send_22 : decode cc_R_send 22 = .ok (.iload_n 1, 1) := by decide +kernel
theorem dd_R_send_23 : decode cc_R_send 23 = .ok (.baload, 1) := by decide +kernel
theorem dd_R_send_24 : decode cc_R_send 24 = .ok (.ifCond .ne 15, 3) := by decide +kernel
theorem dd_R_send_27 : decode cc_R_send 27 = .ok (.iload 4, 2) := by decide +kernel
theorem dd_R_send_29 : decode cc_R_send 29 = .ok (.ifCond .lt 10, 3) := by decide +kernel
theorem dd_R_send_32 : decode cc_R_send 32 = .ok (.iload 4, 2) := by decide +kernel
theorem dd_R_send_34 : decode cc_R_send 34 = .ok (.bipush 8, 2) := by decide +kernel
theorem dd_R_send_36 : decode cc_R_send 36 = .ok (.if_icmp .le 5, 3) := by decide +kernel
theorem dd_R_send_39 : decode cc_R_send 39 = .ok (.iconst (-1), 1) := by decide +kernel
theorem dd_R_send_40 : decode cc_R_send 40 = .ok (.ireturn, 1) := by decide +kernel
theorem dd_R_send_41 : decode cc_R_send 41 = .ok (.bipush 20, 2) := by decide +kernel
theorem dd_R_send_43 : decode cc_R_send 43 = .ok (.iload_n 1, 1) := by decide +kernel
theorem dd_R_send_44 : decode cc_R_send 44 = .ok (.iadd, 1) := by decide +kernel
theorem dd_R_send_45 : decode cc_R_send 45 = .ok (.istore 7, 2) := by decide +kernel
theorem dd_R_send_47 : decode cc_R_send 47 = .ok (.aload_n 0, 1) := by decide +kernel
theorem dd_R_send_48 : decode cc_R_send 48 = .ok (.getfield 65, 3) := by decide +kernel
theorem dd_R_send_51 : decode cc_R_send 51 = .ok (.iload_n 1, 1) := by decide +kernel
theorem dd_R_send_52 : decode cc_R_send 52 = .ok (.iaload, 1) := by decide +kernel
theorem dd_R_send_53 : decode cc_R_send 53 = .ok (.istore 8, 2) := by decide +kernel
theorem dd_R_send_55 : decode cc_R_send 55 = .ok (.aload_n 0, 1) := by decide +kernel
theorem dd_R_send_56 : decode cc_R_send 56 = .ok (.iload 7, 2) := by decide +kernel
theorem dd_R_send_58 : decode cc_R_send 58 = .ok (.iload 5, 2) := by decide +kernel
theorem dd_R_send_60 : decode cc_R_send 60 = .ok (.ifCond .eq 9, 3) := by decide +kernel
theorem dd_R_send_63 : decode cc_R_send 63 = .ok (.sipush 128, 3) := by decide +kernel
theorem dd_R_send_66 : decode cc_R_send 66 = .ok (.goto 5, 3) := by decide +kernel
theorem dd_R_send_69 : decode cc_R_send 69 = .ok (.bipush 64, 2) := by decide +kernel
theorem dd_R_send_71 : decode cc_R_send 71 = .ok (.aload_n 0, 1) := by decide +kernel
theorem dd_R_send_72 : decode cc_R_send 72 = .ok (.getfield 62, 3) := by decide +kernel
theorem dd_R_send_75 : decode cc_R_send 75 = .ok (.iload_n 1, 1) := by decide +kernel
theorem dd_R_send_76 : decode cc_R_send 76 = .ok (.iaload, 1) := by decide +kernel
theorem dd_R_send_77 : decode cc_R_send 77 = .ok (.iload 6, 2) := by decide +kernel
theorem dd_R_send_79 : decode cc_R_send 79 = .ok (.ifCond .eq 7, 3) := by decide +kernel
theorem dd_R_send_82 : decode cc_R_send 82 = .ok (.iconst 1, 1) := by decide +kernel
theorem dd_R_send_83 : decode cc_R_send 83 = .ok (.goto 4, 3) := by decide +kernel
theorem dd_R_send_86 : decode cc_R_send 86 = .ok (.iconst 0, 1) := by decide +kernel
theorem dd_R_send_87 : decode cc_R_send 87 = .ok (.iload 8, 2) := by decide +kernel
theorem dd_R_send_89 : decode cc_R_send 89 = .ok (.invokevirtual 208, 3) := by decide +kernel
theorem dd_R_send_92 : decode cc_R_send 92 = .ok (.iload 6, 2) := by decide +kernel
theorem dd_R_send_94 : decode cc_R_send 94 = .ok (.ifCond .eq 10, 3) := by decide +kernel
theorem dd_R_send_97 : decode cc_R_send 97 = .ok (.aload_n 0, 1) := by decide +kernel
theorem dd_R_send_98 : decode cc_R_send 98 = .ok (.iload 7, 2) := by decide +kernel
theorem dd_R_send_100 : decode cc_R_send 100 = .ok (.iconst 2, 1) := by decide +kernel
theorem dd_R_send_101 : decode cc_R_send 101 = .ok (.invokevirtual 155, 3) := by decide +kernel
theorem dd_R_send_104 : decode cc_R_send 104 = .ok (.aload_n 0, 1) := by decide +kernel
theorem dd_R_send_105 : decode cc_R_send 105 = .ok (.iload 7, 2) := by decide +kernel
theorem dd_R_send_107 : decode cc_R_send 107 = .ok (.lload_n 2, 1) := by decide +kernel
theorem dd_R_send_108 : decode cc_R_send 108 = .ok (.iload 4, 2) := by decide +kernel
theorem dd_R_send_110 : decode cc_R_send 110 = .ok (.iconst 3, 1) := by decide +kernel
theorem dd_R_send_111 : decode cc_R_send 111 = .ok (.iconst 2, 1) := by decide +kernel
theorem dd_R_send_112 : decode cc_R_send 112 = .ok (.iload_n 1, 1) := by decide +kernel
theorem dd_R_send_113 : decode cc_R_send 113 = .ok (.imul, 1) := by decide +kernel
theorem dd_R_send_114 : decode cc_R_send 114 = .ok (.iadd, 1) := by decide +kernel
theorem dd_R_send_115 : decode cc_R_send 115 = .ok (.iconst 0, 1) := by decide +kernel
theorem dd_R_send_116 : decode cc_R_send 116 = .ok (.aload_n 0, 1) := by decide +kernel
theorem dd_R_send_117 : decode cc_R_send 117 = .ok (.getfield 62, 3) := by decide +kernel
theorem dd_R_send_120 : decode cc_R_send 120 = .ok (.iload_n 1, 1) := by decide +kernel
theorem dd_R_send_121 : decode cc_R_send 121 = .ok (.iaload, 1) := by decide +kernel
theorem dd_R_send_122 : decode cc_R_send 122 = .ok (.iload 8, 2) := by decide +kernel
theorem dd_R_send_124 : decode cc_R_send 124 = .ok (.invokevirtual 212, 3) := by decide +kernel
theorem dd_R_send_127 : decode cc_R_send 127 = .ok (.aload_n 0, 1) := by decide +kernel
theorem dd_R_send_128 : decode cc_R_send 128 = .ok (.getfield 65, 3) := by decide +kernel
theorem dd_R_send_131 : decode cc_R_send 131 = .ok (.iload_n 1, 1) := by decide +kernel
theorem dd_R_send_132 : decode cc_R_send 132 = .ok (.dup2, 1) := by decide +kernel
theorem dd_R_send_133 : decode cc_R_send 133 = .ok (.iaload, 1) := by decide +kernel
theorem dd_R_send_134 : decode cc_R_send 134 = .ok (.iconst 1, 1) := by decide +kernel
theorem dd_R_send_135 : decode cc_R_send 135 = .ok (.iadd, 1) := by decide +kernel
theorem dd_R_send_136 : decode cc_R_send 136 = .ok (.iastore, 1) := by decide +kernel
theorem dd_R_send_137 : decode cc_R_send 137 = .ok (.aload_n 0, 1) := by decide +kernel
theorem dd_R_send_138 : decode cc_R_send 138 = .ok (.getfield 53, 3) := by decide +kernel
theorem dd_R_send_141 : decode cc_R_send 141 = .ok (.iload_n 1, 1) := by decide +kernel
theorem dd_R_send_142 : decode cc_R_send 142 = .ok (.iconst 0, 1) := by decide +kernel
theorem dd_R_send_143 : decode cc_R_send 143 = .ok (.iastore, 1) := by decide +kernel
theorem dd_R_send_144 : decode cc_R_send 144 = .ok (.aload_n 0, 1) := by decide +kernel
theorem dd_R_send_145 : decode cc_R_send 145 = .ok (.iload_n 1, 1) := by decide +kernel
theorem dd_R_send_146 : decode cc_R_send 146 = .ok (.invokevirtual 205, 3) := by decide +kernel
theorem dd_R_send_149 : decode cc_R_send 149 = .ok (.iload 8, 2) := by decide +kernel
theorem dd_R_send_151 : decode cc_R_send 151 = .ok (.ireturn, 1) := by decide +kernel
theorem dd_R_skip_0 : decode cc_R_skip 0 = .ok (.iload_n 1, 1) := by decide +kernel
theorem dd_R_skip_1 : decode cc_R_skip 1 = .ok (.iconst 3, 1) := by decide +kernel
theorem dd_R_skip_2 : decode cc_R_skip 2 = .ok (.invokestatic 197, 3) := by decide +kernel
theorem dd_R_skip_5 : decode cc_R_skip 5 = .ok (.ifCond .eq 33, 3) := by decide +kernel
theorem dd_R_skip_8 : decode cc_R_skip 8 = .ok (.aload_n 0, 1) := by decide +kernel
theorem dd_R_skip_9 : decode cc_R_skip 9 = .ok (.getfield 43, 3) := by decide +kernel
theorem dd_R_skip_12 : decode cc_R_skip 12 = .ok (.iload_n 1, 1) := by decide +kernel
theorem dd_R_skip_13 : decode cc_R_skip 13 = .ok (.iaload, 1) := by decide +kernel
theorem dd_R_skip_14 : decode cc_R_skip 14 = .ok (.iconst 2, 1) := by decide +kernel
theorem dd_R_skip_15 : decode cc_R_skip 15 = .ok (.if_icmp .ne 23, 3) := by decide +kernel
theorem dd_R_skip_18 : decode cc_R_skip 18 = .ok (.aload_n 0, 1) := by decide +kernel
theorem dd_R_skip_19 : decode cc_R_skip 19 = .ok (.getfield 46, 3) := by decide +kernel
theorem dd_R_skip_22 : decode cc_R_skip 22 = .ok (.iload_n 1, 1) := by decide +kernel
theorem dd_R_skip_23 : decode cc_R_skip 23 = .ok (.baload, 1) := by decide +kernel
theorem dd_R_skip_24 : decode cc_R_skip 24 = .ok (.ifCond .ne 14, 3) := by decide +kernel
theorem dd_R_skip_27 : decode cc_R_skip 27 = .ok (.iload_n 2, 1) := by decide +kernel
theorem dd_R_skip_28 : decode cc_R_skip 28 = .ok (.iconst 1, 1) := by decide +kernel
theorem dd_R_skip_29 : decode cc_R_skip 29 = .ok (.if_icmp .lt 9, 3) := by decide +kernel
theorem dd_R_skip_32 : decode cc_R_skip 32 = .ok (.iload_n 2, 1) := by decide +kernel
theorem dd_R_skip_33 : decode cc_R_skip 33 = .ok (.ldc 216, 2) := by decide +kernel
theorem dd_R_skip_35 : decode cc_R_skip 35 = .ok (.if_icmp .le 5, 3) := by decide +kernel
theorem dd_R_skip_38 : decode cc_R_skip 38 = .ok (.iconst (-1), 1) := by decide +kernel
theorem dd_R_skip_39 : decode cc_R_skip 39 = .ok (.ireturn, 1) := by decide +kernel
theorem dd_R_skip_40 : decode cc_R_skip 40 = .ok (.aload_n 0, 1) := by decide +kernel
theorem dd_R_skip_41 : decode cc_R_skip 41 = .ok (.getfield 65, 3) := by decide +kernel
theorem dd_R_skip_44 : decode cc_R_skip 44 = .ok (.iload_n 1, 1) := by decide +kernel
theorem dd_R_skip_45 : decode cc_R_skip 45 = .ok (.dup2, 1) := by decide +kernel
theorem dd_R_skip_46 : decode cc_R_skip 46 = .ok (.iaload, 1) := by decide +kernel
theorem dd_R_skip_47 : decode cc_R_skip 47 = .ok (.iload_n 2, 1) := by decide +kernel
theorem dd_R_skip_48 : decode cc_R_skip 48 = .ok (.iadd, 1) := by decide +kernel
theorem dd_R_skip_49 : decode cc_R_skip 49 = .ok (.iastore, 1) := by decide +kernel
theorem dd_R_skip_50 : decode cc_R_skip 50 = .ok (.aload_n 0, 1) := by decide +kernel
theorem dd_R_skip_51 : decode cc_R_skip 51 = .ok (.getfield 65, 3) := by decide +kernel
theorem dd_R_skip_54 : decode cc_R_skip 54 = .ok (.iload_n 1, 1) := by decide +kernel
theorem dd_R_skip_55 : decode cc_R_skip 55 = .ok (.iaload, 1) := by decide +kernel
theorem dd_R_skip_56 : decode cc_R_skip 56 = .ok (.ireturn, 1) := by decide +kernel
theorem dd_R_confirmed_0 : decode cc_R_confirmed 0 = .ok (.aload_n 0, 1) := by decide +kernel
theorem dd_R_confirmed_1 : decode cc_R_confirmed 1 = .ok (.getfield 43, 3) := by decide +kernel
theorem dd_R_confirmed_4 : decode cc_R_confirmed 4 = .ok (.iload_n 1, 1) := by decide +kernel
theorem dd_R_confirmed_5 : decode cc_R_confirmed 5 = .ok (.iaload, 1) := by decide +kernel
theorem dd_R_confirmed_6 : decode cc_R_confirmed 6 = .ok (.iconst 2, 1) := by decide +kernel
theorem dd_R_confirmed_7 : decode cc_R_confirmed 7 = .ok (.if_icmp .ne 22, 3) := by decide +kernel
theorem dd_R_confirmed_10 : decode cc_R_confirmed 10 = .ok (.aload_n 0, 1) := by decide +kernel
theorem dd_R_confirmed_11 : decode cc_R_confirmed 11 = .ok (.bipush 20, 2) := by decide +kernel
theorem dd_R_confirmed_13 : decode cc_R_confirmed 13 = .ok (.iload_n 1, 1) := by decide +kernel
theorem dd_R_confirmed_14 : decode cc_R_confirmed 14 = .ok (.iadd, 1) := by decide +kernel
theorem dd_R_confirmed_15 : decode cc_R_confirmed 15 = .ok (.iconst 0, 1) := by decide +kernel
theorem dd_R_confirmed_16 : decode cc_R_confirmed 16 = .ok (.invokevirtual 158, 3) := by decide +kernel
theorem dd_R_confirmed_19 : decode cc_R_confirmed 19 = .ok (.sipush 128, 3) := by decide +kernel
theorem dd_R_confirmed_22 : decode cc_R_confirmed 22 = .ok (.if_icmp .ne 7, 3) := by decide +kernel
theorem dd_R_confirmed_25 : decode cc_R_confirmed 25 = .ok (.iconst 1, 1) := by decide +kernel
theorem dd_R_confirmed_26 : decode cc_R_confirmed 26 = .ok (.goto 4, 3) := by decide +kernel
theorem dd_R_confirmed_29 : decode cc_R_confirmed 29 = .ok (.iconst 0, 1) := by decide +kernel
theorem dd_R_confirmed_30 : decode cc_R_confirmed 30 = .ok (.ireturn, 1) := by decide +kernel
