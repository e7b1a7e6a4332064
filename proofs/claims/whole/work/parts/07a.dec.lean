theorem dd_W_init_0 : decode cc_W_init 0 = .ok (.aload_n 0, 1) := by decide +kernel
theorem dd_W_init_1 : decode cc_W_init 1 = .ok (.invokespecial 1, 3) := by decide +kernel
theorem dd_W_init_4 : decode cc_W_init 4 = .ok (.aload_n 0, 1) := by decide +kernel
theorem dd_W_init_5 : decode cc_W_init 5 = .ok (.new 7, 3) := by decide +kernel
theorem dd_W_init_8 : decode cc_W_init 8 = .ok (.dup, 1) := by decide +kernel
theorem dd_W_init_9 : decode cc_W_init 9 = .ok (.invokespecial 9, 3) := by decide +kernel
theorem dd_W_init_12 : decode cc_W_init 12 = .ok (.putfield 10, 3) := by decide +kernel
theorem dd_W_init_15 : decode cc_W_init 15 = .ok (.aload_n 0, 1) := by decide +kernel
theorem dd_W_init_16 : decode cc_W_init 16 = .ok (.iconst 3, 1) := by decide +kernel
theorem dd_W_init_17 : decode cc_W_init 17 = .ok (.anewarray 16, 3) := by decide +kernel
theorem dd_W_init_20 : decode cc_W_init 20 = .ok (.putfield 18, 3) := by decide +kernel
theorem dd_W_init_23 : decode cc_W_init 23 = .ok (.aload_n 0, 1) := by decide +kernel
theorem dd_W_init_24 : decode cc_W_init 24 = .ok (.iconst 0, 1) := by decide +kernel
theorem dd_W_init_25 : decode cc_W_init 25 = .ok (.putfield 22, 3) := by decide +kernel
theorem dd_W_init_28 : decode cc_W_init 28 = .ok (.iconst 3, 1) := by decide +kernel
theorem dd_W_init_29 : decode cc_W_init 29 = .ok (.anewarray 26, 3) := by decide +kernel
theorem dd_W_init_32 : decode cc_W_init 32 = .ok (.astore_n 2, 1) := by decide +kernel
theorem dd_W_init_33 : decode cc_W_init 33 = .ok (.bipush 16, 2) := by decide +kernel
theorem dd_W_init_35 : decode cc_W_init 35 = .ok (.newarray .int, 2) := by decide +kernel
theorem dd_W_init_37 : decode cc_W_init 37 = .ok (.astore_n 3, 1) := by decide +kernel
theorem dd_W_init_38 : decode cc_W_init 38 = .ok (.iconst 0, 1) := by decide +kernel
theorem dd_W_init_39 : decode cc_W_init 39 = .ok (.istore 4, 2) := by decide +kernel
theorem dd_W_init_41 : decode cc_W_init 41 = .ok (.iload 4, 2) := by decide +kernel
theorem dd_W_init_43 : decode cc_W_init 43 = .ok (.iconst 3, 1) := by decide +kernel
theorem dd_W_init_44 : decode cc_W_init 44 = .ok (.if_icmp .ge 85, 3) := by decide +kernel
theorem dd_W_init_47 : decode cc_W_init 47 = .ok (.iconst 0, 1) := by decide +kernel
theorem dd_W_init_48 : decode cc_W_init 48 = .ok (.istore 5, 2) := by decide +kernel
theorem dd_W_init_50 : decode cc_W_init 50 = .ok (.iload 5, 2) := by decide +kernel
theorem dd_W_init_52 : decode cc_W_init 52 = .ok (.bipush 16, 2) := by decide +kernel
theorem dd_W_init_54 : decode cc_W_init 54 = .ok (.if_icmp .ge 30, 3) := by decide +kernel
theorem dd_W_init_57 : decode cc_W_init 57 = .ok (.aload_n 3, 1) := by decide +kernel
theorem dd_W_init_58 : decode cc_W_init 58 = .ok (.iload 5, 2) := by decide +kernel
theorem dd_W_init_60 : decode cc_W_init 60 = .ok (.iload_n 1, 1) := by decide +kernel
theorem dd_W_init_61 : decode cc_W_init 61 = .ok (.bipush 41, 2) := by decide +kernel
theorem dd_W_init_63 : decode cc_W_init 63 = .ok (.iload 4, 2) := by decide +kernel
theorem dd_W_init_65 : decode cc_W_init 65 = .ok (.imul, 1) := by decide +kernel
theorem dd_W_init_66 : decode cc_W_init 66 = .ok (.iadd, 1) := by decide +kernel
theorem dd_W_init_67 : decode cc_W_init 67 = .ok (.bipush 13, 2) := by decide +kernel
theorem dd_W_init_69 : decode cc_W_init 69 = .ok (.iload 5, 2) := by decide +kernel
theorem dd_W_init_71 : decode cc_W_init 71 = .ok (.imul, 1) := by decide +kernel
theorem dd_W_init_72 : decode cc_W_init 72 = .ok (.iadd, 1) := by decide +kernel
theorem dd_W_init_73 : decode cc_W_init 73 = .ok (.sipush 255, 3) := by decide +kernel
theorem dd_W_init_76 : decode cc_W_init 76 = .ok (.iand, 1) := by decide +kernel
theorem dd_W_init_77 : decode cc_W_init 77 = .ok (.iastore, 1) := by decide +kernel
theorem dd_W_init_78 : decode cc_W_init 78 = .ok (.iinc 5 1, 3) := by decide +kernel
theorem dd_W_init_81 : decode cc_W_init 81 = .ok (.goto (-31), 3) := by decide +kernel
theorem dd_W_init_84 : decode cc_W_init 84 = .ok (.aload_n 2, 1) := by decide +kernel
theorem dd_W_init_85 : decode cc_W_init 85 = .ok (.iload 4, 2) := by decide +kernel
theorem dd_W_init_87 : decode cc_W_init 87 = .ok (.new 26, 3) := by decide +kernel
theorem dd_W_init_90 : decode cc_W_init 90 = .ok (.dup, 1) := by decide +kernel
theorem dd_W_init_91 : decode cc_W_init 91 = .ok (.invokespecial 28, 3) := by decide +kernel
theorem dd_W_init_94 : decode cc_W_init 94 = .ok (.aastore, 1) := by decide +kernel
theorem dd_W_init_95 : decode cc_W_init 95 = .ok (.aload_n 2, 1) := by decide +kernel
theorem dd_W_init_96 : decode cc_W_init 96 = .ok (.iload 4, 2) := by decide +kernel
theorem dd_W_init_98 : decode cc_W_init 98 = .ok (.aaload, 1) := by decide +kernel
theorem dd_W_init_99 : decode cc_W_init 99 = .ok (.aload_n 3, 1) := by decide +kernel
theorem dd_W_init_100 : decode cc_W_init 100 = .ok (.invokevirtual 29, 3) := by decide +kernel
theorem dd_W_init_103 : decode cc_W_init 103 = .ok (.aload_n 0, 1) := by decide +kernel
theorem dd_W_init_104 : decode cc_W_init 104 = .ok (.getfield 18, 3) := by decide +kernel
theorem dd_W_init_107 : decode cc_W_init 107 = .ok (.iload 4, 2) := by decide +kernel
theorem dd_W_init_109 : decode cc_W_init 109 = .ok (.new 16, 3) := by decide +kernel
theorem dd_W_init_112 : decode cc_W_init 112 = .ok (.dup, 1) := by decide +kernel
theorem dd_W_init_113 : decode cc_W_init 113 = .ok (.iload 4, 2) := by decide +kernel
theorem dd_W_init_115 : decode cc_W_init 115 = .ok (.aload_n 2, 1) := by decide +kernel
theorem dd_W_init_116 : decode cc_W_init 116 = .ok (.iload 4, 2) := by decide +kernel
theorem dd_W_init_118 : decode cc_W_init 118 = .ok (.aaload, 1) := by decide +kernel
theorem dd_W_init_119 : decode cc_W_init 119 = .ok (.invokespecial 33, 3) := by decide +kernel
theorem dd_W_init_122 : decode cc_W_init 122 = .ok (.aastore, 1) := by decide +kernel
theorem dd_W_init_123 : decode cc_W_init 123 = .ok (.iinc 4 1, 3) := by decide +kernel
theorem dd_W_init_126 : decode cc_W_init 126 = .ok (.goto (-85), 3) := by decide +kernel
theorem dd_W_init_129 : decode cc_W_init 129 = .ok (.aload_n 0, 1) := by decide +kernel
theorem dd_W_init_130 : decode cc_W_init 130 = .ok (.new 36, 3) := by decide +kernel
theorem dd_W_init_133 : decode cc_W_init 133 = .ok (.dup, 1) := by decide +kernel
theorem dd_W_init_134 : decode cc_W_init 134 = .ok (.aload_n 2, 1) := by decide +kernel
theorem dd_W_init_135 : decode cc_W_init 135 = .ok (.invokespecial 38, 3) := by decide +kernel
theorem dd_W_init_138 : decode cc_W_init 138 = .ok (.putfield 41, 3) := by decide +kernel
theorem dd_W_init_141 : decode cc_W_init 141 = .ok (.return_, 1) := by decide +kernel
theorem dd_W_join_0 : decode cc_W_join 0 = .ok (.iload_n 1, 1) := by decide +kernel
theorem dd_W_join_1 : decode cc_W_join 1 = .ok (.invokestatic 45, 3) := by decide +kernel
theorem dd_W_join_4 : decode cc_W_join 4 = .ok (.ifCond .eq 29, 3) := by decide +kernel
theorem dd_W_join_7 : decode cc_W_join 7 = .ok (.aload_n 0, 1) := by decide +kernel
theorem dd_W_join_8 : decode cc_W_join 8 = .ok (.getfield 18, 3) := by decide +kernel
theorem dd_W_join_11 : decode cc_W_join 11 = .ok (.iload_n 1, 1) := by decide +kernel
theorem dd_W_join_12 : decode cc_W_join 12 = .ok (.aaload, 1) := by decide +kernel
theorem dd_W_join_13 : decode cc_W_join 13 = .ok (.getfield 49, 3) := by decide +kernel
theorem dd_W_join_16 : decode cc_W_join 16 = .ok (.ifCond .ne 17, 3) := by decide +kernel
theorem dd_W_join_19 : decode cc_W_join 19 = .ok (.aload_n 0, 1) := by decide +kernel
theorem dd_W_join_20 : decode cc_W_join 20 = .ok (.getfield 18, 3) := by decide +kernel
theorem dd_W_join_23 : decode cc_W_join 23 = .ok (.iload_n 1, 1) := by decide +kernel
theorem dd_W_join_24 : decode cc_W_join 24 = .ok (.aaload, 1) := by decide +kernel
theorem dd_W_join_25 : decode cc_W_join 25 = .ok (.getfield 53, 3) := by decide +kernel
theorem dd_W_join_28 : decode cc_W_join 28 = .ok (.ldc 56, 2) := by decide +kernel
theorem dd_W_join_30 : decode cc_W_join 30 = .ok (.if_icmp .lt 5, 3) := by decide +kernel
theorem dd_W_join_33 : decode cc_W_join 33 = .ok (.iconst (-1), 1) := by decide +kernel
theorem dd_W_join_34 : decode cc_W_join 34 = .ok (.ireturn, 1) := by decide +kernel
theorem dd_W_join_35 : decode cc_W_join 35 = .ok (.aload_n 0, 1) := by decide +kernel
theorem dd_W_join_36 : decode cc_W_join 36 = .ok (.getfield 18, 3) := by decide +kernel
theorem dd_W_join_39 : decode cc_W_join 39 = .ok (.iload_n 1, 1) := by decide +kernel
theorem dd_W_join_40 : decode cc_W_join 40 = .ok (.aaload, 1) := by decide +kernel
theorem dd_W_join_41 : decode cc_W_join 41 = .ok (.invokevirtual 57, 3) := by decide +kernel
theorem dd_W_join_44 : decode cc_W_join 44 = .ok (.aload_n 0, 1) := by decide +kernel
theorem dd_W_join_45 : decode cc_W_join 45 = .ok (.getfield 18, 3) := by decide +kernel
theorem dd_W_join_48 : decode cc_W_join 48 = .ok (.iload_n 1, 1) := by decide +kernel
theorem dd_W_join_49 : decode cc_W_join 49 = .ok (.aaload, 1) := by decide +kernel
theorem dd_W_join_50 : decode cc_W_join 50 = .ok (.aload_n 0, 1) := by decide +kernel
theorem dd_W_join_51 : decode cc_W_join 51 = .ok (.getfield 10, 3) := by decide +kernel
theorem dd_W_join_54 : decode cc_W_join 54 = .ok (.aload_n 0, 1) := by decide +kernel
theorem dd_W_join_55 : decode cc_W_join 55 = .ok (.getfield 22, 3) := by decide +kernel
theorem dd_W_join_58 : decode cc_W_join 58 = .ok (.invokevirtual 60, 3) := by decide +kernel
theorem dd_W_join_61 : decode cc_W_join 61 = .ok (.aload_n 0, 1) := by decide +kernel
theorem dd_W_join_62 : decode cc_W_join 62 = .ok (.getfield 18, 3) := by decide +kernel
theorem dd_W_join_65 : decode cc_W_join 65 = .ok (.iload_n 1, 1) := by decide +kernel
theorem dd_W_join_66 : decode cc_W_join 66 = .ok (.aaload, 1) := by decide +kernel
theorem dd_W_join_67 : decode cc_W_join 67 = .ok (.getfield 53, 3) := by decide +kernel
theorem dd_W_join_70 : decode cc_W_join 70 = .ok (.ireturn, 1) := by decide +kernel
theorem dd_W_send_0 : decode cc_W_send 0 = .ok (.iload_n 1, 1) := by decide +kernel
theorem dd_W_send_1 : decode cc_W_send 1 = .ok (.invokestatic 45, 3) := by decide +kernel
theorem dd_W_send_4 : decode cc_W_send 4 = .ok (.ifCond .eq 27, 3) := by decide +kernel
theorem dd_W_send_7 : decode cc_W_send 7 = .ok (.aload_n 0, 1) := by decide +kernel
theorem dd_W_send_8 : decode cc_W_send 8 = .ok (.getfield 18, 3) := by decide +kernel
theorem dd_W_send_11 : decode cc_W_send 11 = .ok (.iload_n 1, 1) := by decide +kernel
theorem dd_W_send_12 : decode cc_W_send 12 = .ok (.aaload, 1) := by decide +kernel
theorem dd_W_send_13 : decode cc_W_send 13 = .ok (.invokevirtual 64, 3) := by decide +kernel
theorem dd_W_send_16 : decode cc_W_send 16 = .ok (.ifCond .eq 15, 3) := by decide +kernel
theorem dd_W_send_19 : decode cc_W_send 19 = .ok (.iload 4, 2) := by decide +kernel
theorem dd_W_send_21 : decode cc_W_send 21 = .ok (.ifCond .lt 10, 3) := by decide +kernel
theorem dd_W_send_24 : decode cc_W_send 24 = .ok (.iload 4, 2) := by decide +kernel
theorem dd_W_send_26 : decode cc_W_send 26 = .ok (.bipush 8, 2) := by decide +kernel
theorem dd_W_send_28 : decode cc_W_send 28 = .ok (.if_icmp .le 5, 3) := by decide +kernel
theorem dd_W_send_31 : decode cc_W_send 31 = .ok (.iconst (-1), 1) := by decide +kernel
theorem dd_W_send_32 : decode cc_W_send 32 = .ok (.ireturn, 1) := by decide +kernel
theorem dd_W_send_33 : decode cc_W_send 33 = .ok (.aload_n 0, 1) := by decide +kernel
theorem dd_W_send_34 : decode cc_W_send 34 = .ok (.getfield 18, 3) := by decide +kernel
theorem dd_W_send_37 : decode cc_W_send 37 = .ok (.iload_n 1, 1) := by decide +kernel
theorem dd_W_send_38 : decode cc_W_send 38 = .ok (.aaload, 1) := by decide +kernel
theorem dd_W_send_39 : decode cc_W_send 39 = .ok (.getfield 68, 3) := by decide +kernel
theorem dd_W_send_42 : decode cc_W_send 42 = .ok (.istore 7, 2) := by decide +kernel
theorem dd_W_send_44 : decode cc_W_send 44 = .ok (.aload_n 0, 1) := by decide +kernel
theorem dd_W_send_45 : decode cc_W_send 45 = .ok (.getfield 18, 3) := by decide +kernel
theorem dd_W_send_48 : decode cc_W_send 48 = .ok (.iload_n 1, 1) := by decide +kernel
theorem dd_W_send_49 : decode cc_W_send 49 = .ok (.aaload, 1) := by decide +kernel
theorem dd_W_send_50 : decode cc_W_send 50 = .ok (.lload_n 2, 1) := by decide +kernel
theorem dd_W_send_51 : decode cc_W_send 51 = .ok (.iload 4, 2) := by decide +kernel
theorem dd_W_send_53 : decode cc_W_send 53 = .ok (.iload 5, 2) := by decide +kernel
theorem dd_W_send_55 : decode cc_W_send 55 = .ok (.iload 6, 2) := by decide +kernel
theorem dd_W_send_57 : decode cc_W_send 57 = .ok (.invokevirtual 71, 3) := by decide +kernel
theorem dd_W_send_60 : decode cc_W_send 60 = .ok (.aload_n 0, 1) := by decide +kernel
theorem dd_W_send_61 : decode cc_W_send 61 = .ok (.getfield 18, 3) := by decide +kernel
theorem dd_W_send_64 : decode cc_W_send 64 = .ok (.iload_n 1, 1) := by decide +kernel
theorem dd_W_send_65 : decode cc_W_send 65 = .ok (.aaload, 1) := by decide +kernel
theorem dd_W_send_66 : decode cc_W_send 66 = .ok (.aload_n 0, 1) := by decide +kernel
theorem dd_W_send_67 : decode cc_W_send 67 = .ok (.getfield 10, 3) := by decide +kernel
theorem dd_W_send_70 : decode cc_W_send 70 = .ok (.aload_n 0, 1) := by decide +kernel
theorem dd_W_send_71 : decode cc_W_send 71 = .ok (.getfield 22, 3) := by decide +kernel
theorem dd_W_send_74 : decode cc_W_send 74 = .ok (.invokevirtual 60, 3) := by decide +kernel
theorem dd_W_send_77 : decode cc_W_send 77 = .ok (.iload 7, 2) := by decide +kernel
theorem dd_W_send_79 : decode cc_W_send 79 = .ok (.ireturn, 1) := by decide +kernel
theorem dd_W_skip_0 : decode cc_W_skip 0 = .ok (.iload_n 1, 1) := by decide +kernel
theorem dd_W_skip_1 : decode cc_W_skip 1 = .ok (.invokestatic 45, 3) := by decide +kernel
theorem dd_W_skip_4 : decode cc_W_skip 4 = .ok (.ifCond .eq 26, 3) := by decide +kernel
theorem dd_W_skip_7 : decode cc_W_skip 7 = .ok (.aload_n 0, 1) := by decide +kernel
theorem dd_W_skip_8 : decode cc_W_skip 8 = .ok (.getfield 18, 3) := by decide +kernel
theorem dd_W_skip_11 : decode cc_W_skip 11 = .ok (.iload_n 1, 1) := by decide +kernel
theorem dd_W_skip_12 : decode cc_W_skip 12 = .ok (.aaload, 1) := by decide +kernel
theorem dd_W_skip_13 : decode cc_W_skip 13 = .ok (.invokevirtual 64, 3) := by decide +kernel
theorem dd_W_skip_16 : decode cc_W_skip 16 = .ok (.ifCond .eq 14, 3) := by decide +kernel
theorem dd_W_skip_19 : decode cc_W_skip 19 = .ok (.iload_n 2, 1) := by decide +kernel
theorem dd_W_skip_20 : decode cc_W_skip 20 = .ok (.iconst 1, 1) := by decide +kernel
theorem dd_W_skip_21 : decode cc_W_skip 21 = .ok (.if_icmp .lt 9, 3) := by decide +kernel
theorem dd_W_skip_24 : decode cc_W_skip 24 = .ok (.iload_n 2, 1) := by decide +kernel
theorem dd_W_skip_25 : decode cc_W_skip 25 = .ok (.ldc 75, 2) := by decide +kernel
theorem dd_W_skip_27 : decode cc_W_skip 27 = .ok (.if_icmp .le 5, 3) := by decide +kernel
theorem dd_W_skip_30 : decode cc_W_skip 30 = .ok (.iconst (-1), 1) := by decide +kernel
theorem dd_W_skip_31 : decode cc_W_skip 31 = .ok (.ireturn, 1) := by decide +kernel
theorem dd_W_skip_32 : decode cc_W_skip 32 = .ok (.aload_n 0, 1) := by decide +kernel
theorem dd_W_skip_33 : decode cc_W_skip 33 = .ok (.getfield 18, 3) := by decide +kernel
theorem dd_W_skip_36 : decode cc_W_skip 36 = .ok (.iload_n 1, 1) := by decide +kernel
theorem dd_W_skip_37 : decode cc_W_skip 37 = .ok (.aaload, 1) := by decide +kernel
theorem dd_W_skip_38 : decode cc_W_skip 38 = .ok (.dup, 1) := by decide +kernel
theorem dd_W_skip_39 : decode cc_W_skip 39 = .ok (.getfield 68, 3) := by decide +kernel
theorem dd_W_skip_42 : decode cc_W_skip 42 = .ok (.iload_n 2, 1) := by decide +kernel
theorem dd_W_skip_43 : decode cc_W_skip 43 = .ok (.iadd, 1) := by decide +kernel
theorem dd_W_skip_44 : decode cc_W_skip 44 = .ok (.putfield 68, 3) := by decide +kernel
theorem dd_W_skip_47 : decode cc_W_skip 47 = .ok (.aload_n 0, 1) := by decide +kernel
theorem dd_W_skip_48 : decode cc_W_skip 48 = .ok (.getfield 18, 3) := by decide +kernel
theorem dd_W_skip_51 : decode cc_W_skip 51 = .ok (.iload_n 1, 1) := by decide +kernel
theorem dd_W_skip_52 : decode cc_W_skip 52 = .ok (.aaload, 1) := by decide +kernel
theorem dd_W_skip_53 : decode cc_W_skip 53 = .ok (.getfield 68, 3) := by decide +kernel
theorem dd_W_skip_56 : decode cc_W_skip 56 = .ok (.ireturn, 1) := by decide +kernel
theorem dd_W_queue_0 : decode cc_W_queue 0 = .ok (.iload_n 1, 1) := by decide +kernel
theorem dd_W_queue_1 : decode cc_W_queue 1 = .ok (.invokestatic 45, 3) := by decide +kernel
theorem dd_W_queue_4 : decode cc_W_queue 4 = .ok (.ifCond .eq 16, 3) := by decide +kernel
theorem dd_W_queue_7 : decode cc_W_queue 7 = .ok (.iload 4, 2) := by decide +kernel
theorem dd_W_queue_9 : decode cc_W_queue 9 = .ok (.iconst 1, 1) := by decide +kernel
theorem dd_W_queue_10 : decode cc_W_queue 10 = .ok (.if_icmp .lt 10, 3) := by decide +kernel
theorem dd_W_queue_13 : decode cc_W_queue 13 = .ok (.iload 4, 2) := by decide +kernel
theorem dd_W_queue_15 : decode cc_W_queue 15 = .ok (.bipush 8, 2) := by decide +kernel
theorem dd_W_queue_17 : decode cc_W_queue 17 = .ok (.if_icmp .le 5, 3) := by decide +kernel
theorem dd_W_queue_20 : decode cc_W_queue 20 = .ok (.iconst (-1), 1) := by decide +kernel
theorem dd_W_queue_21 : decode cc_W_queue 21 = .ok (.ireturn, 1) := by decide +kernel
theorem dd_W_queue_22 : decode cc_W_queue 22 = .ok (.aload_n 0, 1) := by decide +kernel
theorem dd_W_queue_23 : decode cc_W_queue 23 = .ok (.getfield 41, 3) := by decide +kernel
theorem dd_W_queue_26 : decode cc_W_queue 26 = .ok (.getfield 76, 3) := by decide +kernel
theorem dd_W_queue_29 : decode cc_W_queue 29 = .ok (.iload_n 1, 1) := by decide +kernel
theorem dd_W_queue_30 : decode cc_W_queue 30 = .ok (.aaload, 1) := by decide +kernel
theorem dd_W_queue_31 : decode cc_W_queue 31 = .ok (.lload_n 2, 1) := by decide +kernel
theorem dd_W_queue_32 : decode cc_W_queue 32 = .ok (.iload 4, 2) := by decide +kernel
theorem dd_W_queue_34 : decode cc_W_queue 34 = .ok (.invokevirtual 80, 3) := by decide +kernel
theorem dd_W_queue_37 : decode cc_W_queue 37 = .ok (.ireturn, 1) := by decide +kernel
theorem dd_W_tick_0 : decode cc_W_tick 0 = .ok (.iload_n 1, 1) := by decide +kernel
theorem dd_W_tick_1 : decode cc_W_tick 1 = .ok (.iconst 1, 1) := by decide +kernel
theorem dd_W_tick_2 : decode cc_W_tick 2 = .ok (.if_icmp .lt 9, 3) := by decide +kernel
theorem dd_W_tick_5 : decode cc_W_tick 5 = .ok (.iload_n 1, 1) := by decide +kernel
theorem dd_W_tick_6 : decode cc_W_tick 6 = .ok (.bipush 50, 2) := by decide +kernel
theorem dd_W_tick_8 : decode cc_W_tick 8 = .ok (.if_icmp .le 5, 3) := by decide +kernel
theorem dd_W_tick_11 : decode cc_W_tick 11 = .ok (.iconst (-1), 1) := by decide +kernel
theorem dd_W_tick_12 : decode cc_W_tick 12 = .ok (.ireturn, 1) := by decide +kernel
theorem dd_W_tick_13 : decode cc_W_tick 13 = .ok (.iconst 0, 1) := by decide +kernel
theorem dd_W_tick_14 : decode cc_W_tick 14 = .ok (.istore_n 2, 1) := by decide +kernel
theorem dd_W_tick_15 : decode cc_W_tick 15 = .ok (.iload_n 2, 1) := by decide +kernel
theorem dd_W_tick_16 : decode cc_W_tick 16 = .ok (.iload_n 1, 1) := by decide +kernel
theorem dd_W_tick_17 : decode cc_W_tick 17 = .ok (.if_icmp .ge 60, 3) := by decide +kernel
theorem dd_W_tick_20 : decode cc_W_tick 20 = .ok (.aload_n 0, 1) := by decide +kernel
theorem dd_W_tick_21 : decode cc_W_tick 21 = .ok (.dup, 1) := by decide +kernel
theorem dd_W_tick_22 : decode cc_W_tick 22 = .ok (.getfield 22, 3) := by decide +kernel
theorem dd_W_tick_25 : decode cc_W_tick 25 = .ok (.iconst 1, 1) := by decide +kernel
theorem dd_W_tick_26 : decode cc_W_tick 26 = .ok (.iadd, 1) := by decide +kernel
theorem dd_W_tick_27 : decode cc_W_tick 27 = .ok (.putfield 22, 3) := by decide +kernel
theorem dd_W_tick_30 : decode cc_W_tick 30 = .ok (.aload_n 0, 1) := by decide +kernel
theorem dd_W_tick_31 : decode cc_W_tick 31 = .ok (.getfield 41, 3) := by decide +kernel
theorem dd_W_tick_34 : decode cc_W_tick 34 = .ok (.aload_n 0, 1) := by decide +kernel
theorem dd_W_tick_35 : decode cc_W_tick 35 = .ok (.getfield 10, 3) := by decide +kernel
theorem dd_W_tick_38 : decode cc_W_tick 38 = .ok (.invokevirtual 86, 3) := by decide +kernel
theorem dd_W_tick_41 : decode cc_W_tick 41 = .ok (.iconst 0, 1) := by decide +kernel
theorem dd_W_tick_42 : decode cc_W_tick 42 = .ok (.istore_n 3, 1) := by decide +kernel
theorem dd_W_tick_43 : decode cc_W_tick 43 = .ok (.iload_n 3, 1) := by decide +kernel
theorem dd_W_tick_44 : decode cc_W_tick 44 = .ok (.iconst 3, 1) := by decide +kernel
theorem dd_W_tick_45 : decode cc_W_tick 45 = .ok (.if_icmp .ge 26, 3) := by decide +kernel
theorem dd_W_tick_48 : decode cc_W_tick 48 = .ok (.aload_n 0, 1) := by decide +kernel
theorem dd_W_tick_49 : decode cc_W_tick 49 = .ok (.getfield 18, 3) := by decide +kernel
theorem dd_W_tick_52 : decode cc_W_tick 52 = .ok (.iload_n 3, 1) := by decide +kernel
theorem dd_W_tick_53 : decode cc_W_tick 53 = .ok (.aaload, 1) := by decide +kernel
theorem dd_W_tick_54 : decode cc_W_tick 54 = .ok (.aload_n 0, 1) := by decide +kernel
theorem dd_W_tick_55 : decode cc_W_tick 55 = .ok (.getfield 10, 3) := by decide +kernel
theorem dd_W_tick_58 : decode cc_W_tick 58 = .ok (.aload_n 0, 1) := by decide +kernel
theorem dd_W_tick_59 : decode cc_W_tick 59 = .ok (.getfield 22, 3) := by decide +kernel
theorem dd_W_tick_62 : decode cc_W_tick 62 = .ok (.invokevirtual 90, 3) := by decide +kernel
theorem dd_W_tick_65 : decode cc_W_tick 65 = .ok (.iinc 3 1, 3) := by decide +kernel
theorem dd_W_tick_68 : decode cc_W_tick 68 = .ok (.goto (-25), 3) := by decide +kernel
theorem dd_W_tick_71 : decode cc_W_tick 71 = .ok (.iinc 2 1, 3) := by decide +kernel
theorem dd_W_tick_74 : decode cc_W_tick 74 = .ok (.goto (-59), 3) := by decide +kernel
theorem dd_W_tick_77 : decode cc_W_tick 77 = .ok (.aload_n 0, 1) := by decide +kernel
theorem dd_W_tick_78 : decode cc_W_tick 78 = .ok (.getfield 22, 3) := by decide +kernel
theorem dd_W_tick_81 : decode cc_W_tick 81 = .ok (.ireturn, 1) := by decide +kernel
theorem dd_W_hear_0 : decode cc_W_hear 0 = .ok (.aload_n 0, 1) := by decide +kernel
theorem dd_W_hear_1 : decode cc_W_hear 1 = .ok (.getfield 10, 3) := by decide +kernel
theorem dd_W_hear_4 : decode cc_W_hear 4 = .ok (.iload_n 1, 1) := by decide +kernel
theorem dd_W_hear_5 : decode cc_W_hear 5 = .ok (.invokevirtual 93, 3) := by decide +kernel
theorem dd_W_hear_8 : decode cc_W_hear 8 = .ok (.ifCond .eq 12, 3) := by decide +kernel
theorem dd_W_hear_11 : decode cc_W_hear 11 = .ok (.iload_n 2, 1) := by decide +kernel
theorem dd_W_hear_12 : decode cc_W_hear 12 = .ok (.ifCond .lt 8, 3) := by decide +kernel
theorem dd_W_hear_15 : decode cc_W_hear 15 = .ok (.iload_n 2, 1) := by decide +kernel
theorem dd_W_hear_16 : decode cc_W_hear 16 = .ok (.iconst 2, 1) := by decide +kernel
theorem dd_W_hear_17 : decode cc_W_hear 17 = .ok (.if_icmp .lt 5, 3) := by decide +kernel
theorem dd_W_hear_20 : decode cc_W_hear 20 = .ok (.iconst 0, 1) := by decide +kernel
theorem dd_W_hear_21 : decode cc_W_hear 21 = .ok (.ireturn, 1) := by decide +kernel
theorem dd_W_hear_22 : decode cc_W_hear 22 = .ok (.aload_n 0, 1) := by decide +kernel
theorem dd_W_hear_23 : decode cc_W_hear 23 = .ok (.getfield 10, 3) := by decide +kernel
theorem dd_W_hear_26 : decode cc_W_hear 26 = .ok (.getfield 96, 3) := by decide +kernel
theorem dd_W_hear_29 : decode cc_W_hear 29 = .ok (.iload_n 1, 1) := by decide +kernel
theorem dd_W_hear_30 : decode cc_W_hear 30 = .ok (.aaload, 1) := by decide +kernel
theorem dd_W_hear_31 : decode cc_W_hear 31 = .ok (.astore_n 3, 1) := by decide +kernel
theorem dd_W_hear_32 : decode cc_W_hear 32 = .ok (.aload_n 3, 1) := by decide +kernel
theorem dd_W_hear_33 : decode cc_W_hear 33 = .ok (.getfield 100, 3) := by decide +kernel
theorem dd_W_hear_36 : decode cc_W_hear 36 = .ok (.iconst 3, 1) := by decide +kernel
theorem dd_W_hear_37 : decode cc_W_hear 37 = .ok (.if_icmp .eq 5, 3) := by decide +kernel
theorem dd_W_hear_40 : decode cc_W_hear 40 = .ok (.iconst 0, 1) := by decide +kernel
theorem dd_W_hear_41 : decode cc_W_hear 41 = .ok (.ireturn, 1) := by decide +kernel
theorem dd_W_hear_42 : decode cc_W_hear 42 = .ok (.aload_n 3, 1) := by decide +kernel
theorem dd_W_hear_43 : decode cc_W_hear 43 = .ok (.invokevirtual 105, 3) := by decide +kernel
theorem dd_W_hear_46 : decode cc_W_hear 46 = .ok (.ifCond .eq 14, 3) := by decide +kernel
theorem dd_W_hear_49 : decode cc_W_hear 49 = .ok (.aload_n 0, 1) := by decide +kernel
theorem dd_W_hear_50 : decode cc_W_hear 50 = .ok (.getfield 41, 3) := by decide +kernel
theorem dd_W_hear_53 : decode cc_W_hear 53 = .ok (.aload_n 3, 1) := by decide +kernel
theorem dd_W_hear_54 : decode cc_W_hear 54 = .ok (.invokevirtual 108, 3) := by decide +kernel
theorem dd_W_hear_57 : decode cc_W_hear 57 = .ok (.goto 30, 3) := by decide +kernel
theorem dd_W_hear_60 : decode cc_W_hear 60 = .ok (.aload_n 3, 1) := by decide +kernel
theorem dd_W_hear_61 : decode cc_W_hear 61 = .ok (.invokevirtual 112, 3) := by decide +kernel
theorem dd_W_hear_64 : decode cc_W_hear 64 = .ok (.ifCond .eq 23, 3) := by decide +kernel
theorem dd_W_hear_67 : decode cc_W_hear 67 = .ok (.aload_n 3, 1) := by decide +kernel
theorem dd_W_hear_68 : decode cc_W_hear 68 = .ok (.getfield 115, 3) := by decide +kernel
theorem dd_W_hear_71 : decode cc_W_hear 71 = .ok (.iconst 0, 1) := by decide +kernel
theorem dd_W_hear_72 : decode cc_W_hear 72 = .ok (.iaload, 1) := by decide +kernel
theorem dd_W_hear_73 : decode cc_W_hear 73 = .ok (.bipush 96, 2) := by decide +kernel
theorem dd_W_hear_75 : decode cc_W_hear 75 = .ok (.if_icmp .eq 12, 3) := by decide +kernel
theorem dd_W_hear_78 : decode cc_W_hear 78 = .ok (.aload_n 0, 1) := by decide +kernel
theorem dd_W_hear_79 : decode cc_W_hear 79 = .ok (.getfield 41, 3) := by decide +kernel
theorem dd_W_hear_82 : decode cc_W_hear 82 = .ok (.aload_n 3, 1) := by decide +kernel
theorem dd_W_hear_83 : decode cc_W_hear 83 = .ok (.iload_n 2, 1) := by decide +kernel
theorem dd_W_hear_84 : decode cc_W_hear 84 = .ok (.invokevirtual 119, 3) := by decide +kernel
theorem dd_W_hear_87 : decode cc_W_hear 87 = .ok (.iconst 1, 1) := by decide +kernel
theorem dd_W_hear_88 : decode cc_W_hear 88 = .ok (.ireturn, 1) := by decide +kernel
theorem dd_W_reach_0 : decode cc_W_reach 0 = .ok (.aload_n 0, 1) := by decide +kernel
theorem dd_W_reach_1 : decode cc_W_reach 1 = .ok (.getfield 10, 3) := by decide +kernel
theorem dd_W_reach_4 : decode cc_W_reach 4 = .ok (.iload_n 1, 1) := by decide +kernel
theorem dd_W_reach_5 : decode cc_W_reach 5 = .ok (.invokevirtual 93, 3) := by decide +kernel
theorem dd_W_reach_8 : decode cc_W_reach 8 = .ok (.ifCond .eq 19, 3) := by decide +kernel
theorem dd_W_reach_11 : decode cc_W_reach 11 = .ok (.aload_n 0, 1) := by decide +kernel
theorem dd_W_reach_12 : decode cc_W_reach 12 = .ok (.getfield 10, 3) := by decide +kernel
theorem dd_W_reach_15 : decode cc_W_reach 15 = .ok (.getfield 96, 3) := by decide +kernel
theorem dd_W_reach_18 : decode cc_W_reach 18 = .ok (.iload_n 1, 1) := by decide +kernel
theorem dd_W_reach_19 : decode cc_W_reach 19 = .ok (.aaload, 1) := by decide +kernel
theorem dd_W_reach_20 : decode cc_W_reach 20 = .ok (.getfield 100, 3) := by decide +kernel
theorem dd_W_reach_23 : decode cc_W_reach 23 = .ok (.iconst 3, 1) := by decide +kernel
theorem dd_W_reach_24 : decode cc_W_reach 24 = .ok (.if_icmp .ne 5, 3) := by decide +kernel
theorem dd_W_reach_27 : decode cc_W_reach 27 = .ok (.iconst 0, 1) := by decide +kernel
theorem dd_W_reach_28 : decode cc_W_reach 28 = .ok (.ireturn, 1) := by decide +kernel
theorem dd_W_reach_29 : decode cc_W_reach 29 = .ok (.aload_n 0, 1) := by decide +kernel
theorem dd_W_reach_30 : decode cc_W_reach 30 = .ok (.getfield 10, 3) := by decide +kernel
theorem dd_W_reach_33 : decode cc_W_reach 33 = .ok (.iload_n 1, 1) := by decide +kernel
theorem dd_W_reach_34 : decode cc_W_reach 34 = .ok (.invokevirtual 123, 3) := by decide +kernel
theorem dd_W_reach_37 : decode cc_W_reach 37 = .ok (.astore_n 2, 1) := by decide +kernel
theorem dd_W_reach_38 : decode cc_W_reach 38 = .ok (.aload_n 0, 1) := by decide +kernel
theorem dd_W_reach_39 : decode cc_W_reach 39 = .ok (.getfield 18, 3) := by decide +kernel
theorem dd_W_reach_42 : decode cc_W_reach 42 = .ok (.aload_n 2, 1) := by decide +kernel
theorem dd_W_reach_43 : decode cc_W_reach 43 = .ok (.getfield 100, 3) := by decide +kernel
theorem dd_W_reach_46 : decode cc_W_reach 46 = .ok (.aaload, 1) := by decide +kernel
theorem dd_W_reach_47 : decode cc_W_reach 47 = .ok (.aload_n 2, 1) := by decide +kernel
theorem dd_W_reach_48 : decode cc_W_reach 48 = .ok (.aload_n 0, 1) := by decide +kernel
theorem dd_W_reach_49 : decode cc_W_reach 49 = .ok (.getfield 22, 3) := by decide +kernel
theorem dd_W_reach_52 : decode cc_W_reach 52 = .ok (.invokevirtual 127, 3) := by decide +kernel
theorem dd_W_reach_55 : decode cc_W_reach 55 = .ok (.iconst 1, 1) := by decide +kernel
theorem dd_W_reach_56 : decode cc_W_reach 56 = .ok (.ireturn, 1) := by decide +kernel
theorem dd_W_lose_0 : decode cc_W_lose 0 = .ok (.aload_n 0, 1) := by decide +kernel
theorem dd_W_lose_1 : decode cc_W_lose 1 = .ok (.getfield 10, 3) := by decide +kernel
theorem dd_W_lose_4 : decode cc_W_lose 4 = .ok (.iload_n 1, 1) := by decide +kernel
theorem dd_W_lose_5 : decode cc_W_lose 5 = .ok (.invokevirtual 93, 3) := by decide +kernel
theorem dd_W_lose_8 : decode cc_W_lose 8 = .ok (.ifCond .ne 5, 3) := by decide +kernel
theorem dd_W_lose_11 : decode cc_W_lose 11 = .ok (.iconst 0, 1) := by decide +kernel
theorem dd_W_lose_12 : decode cc_W_lose 12 = .ok (.ireturn, 1) := by decide +kernel
theorem dd_W_lose_13 : decode cc_W_lose 13 = .ok (.aload_n 0, 1) := by decide +kernel
theorem dd_W_lose_14 : decode cc_W_lose 14 = .ok (.getfield 10, 3) := by decide +kernel
theorem dd_W_lose_17 : decode cc_W_lose 17 = .ok (.iload_n 1, 1) := by decide +kernel
theorem dd_W_lose_18 : decode cc_W_lose 18 = .ok (.invokevirtual 123, 3) := by decide +kernel
theorem dd_W_lose_21 : decode cc_W_lose 21 = .ok (.pop, 1) := by decide +kernel
theorem dd_W_lose_22 : decode cc_W_lose 22 = .ok (.iconst 1, 1) := by decide +kernel
theorem dd_W_lose_23 : decode cc_W_lose 23 = .ok (.ireturn, 1) := by decide +kernel
theorem dd_W_replay_0 : decode cc_W_replay 0 = .ok (.aload_n 0, 1) := by decide +kernel
theorem dd_W_replay_1 : decode cc_W_replay 1 = .ok (.getfield 10, 3) := by decide +kernel
theorem dd_W_replay_4 : decode cc_W_replay 4 = .ok (.iload_n 1, 1) := by decide +kernel
theorem dd_W_replay_5 : decode cc_W_replay 5 = .ok (.invokevirtual 130, 3) := by decide +kernel
theorem dd_W_replay_8 : decode cc_W_replay 8 = .ok (.ireturn, 1) := by decide +kernel
theorem dd_W_spoil_0 : decode cc_W_spoil 0 = .ok (.aload_n 0, 1) := by decide +kernel
theorem dd_W_spoil_1 : decode cc_W_spoil 1 = .ok (.getfield 10, 3) := by decide +kernel
theorem dd_W_spoil_4 : decode cc_W_spoil 4 = .ok (.iload_n 1, 1) := by decide +kernel
theorem dd_W_spoil_5 : decode cc_W_spoil 5 = .ok (.invokevirtual 93, 3) := by decide +kernel
theorem dd_W_spoil_8 : decode cc_W_spoil 8 = .ok (.ifCond .eq 31, 3) := by decide +kernel
theorem dd_W_spoil_11 : decode cc_W_spoil 11 = .ok (.aload_n 0, 1) := by decide +kernel
theorem dd_W_spoil_12 : decode cc_W_spoil 12 = .ok (.getfield 10, 3) := by decide +kernel
theorem dd_W_spoil_15 : decode cc_W_spoil 15 = .ok (.getfield 96, 3) := by decide +kernel
theorem dd_W_spoil_18 : decode cc_W_spoil 18 = .ok (.iload_n 1, 1) := by decide +kernel
theorem dd_W_spoil_19 : decode cc_W_spoil 19 = .ok (.aaload, 1) := by decide +kernel
theorem dd_W_spoil_20 : decode cc_W_spoil 20 = .ok (.iload_n 2, 1) := by decide +kernel
theorem dd_W_spoil_21 : decode cc_W_spoil 21 = .ok (.invokevirtual 133, 3) := by decide +kernel
theorem dd_W_spoil_24 : decode cc_W_spoil 24 = .ok (.ifCond .eq 15, 3) := by decide +kernel
theorem dd_W_spoil_27 : decode cc_W_spoil 27 = .ok (.iload_n 3, 1) := by decide +kernel
theorem dd_W_spoil_28 : decode cc_W_spoil 28 = .ok (.iconst 1, 1) := by decide +kernel
theorem dd_W_spoil_29 : decode cc_W_spoil 29 = .ok (.if_icmp .lt 10, 3) := by decide +kernel
theorem dd_W_spoil_32 : decode cc_W_spoil 32 = .ok (.iload_n 3, 1) := by decide +kernel
theorem dd_W_spoil_33 : decode cc_W_spoil 33 = .ok (.sipush 255, 3) := by decide +kernel
theorem dd_W_spoil_36 : decode cc_W_spoil 36 = .ok (.if_icmp .le 5, 3) := by decide +kernel
theorem dd_W_spoil_39 : decode cc_W_spoil 39 = .ok (.iconst 0, 1) := by decide +kernel
theorem dd_W_spoil_40 : decode cc_W_spoil 40 = .ok (.ireturn, 1) := by decide +kernel
theorem dd_W_spoil_41 : decode cc_W_spoil 41 = .ok (.aload_n 0, 1) := by decide +kernel
theorem dd_W_spoil_42 : decode cc_W_spoil 42 = .ok (.getfield 10, 3) := by decide +kernel
theorem dd_W_spoil_45 : decode cc_W_spoil 45 = .ok (.getfield 96, 3) := by decide +kernel
theorem dd_W_spoil_48 : decode cc_W_spoil 48 = .ok (.iload_n 1, 1) := by decide +kernel
theorem dd_W_spoil_49 : decode cc_W_spoil 49 = .ok (.aaload, 1) := by decide +kernel
theorem dd_W_spoil_50 : decode cc_W_spoil 50 = .ok (.getfield 115, 3) := by decide +kernel
theorem dd_W_spoil_53 : decode cc_W_spoil 53 = .ok (.iload_n 2, 1) := by decide +kernel
theorem dd_W_spoil_54 : decode cc_W_spoil 54 = .ok (.dup2, 1) := by decide +kernel
theorem dd_W_spoil_55 : decode cc_W_spoil 55 = .ok (.iaload, 1) := by decide +kernel
theorem dd_W_spoil_56 : decode cc_W_spoil 56 = .ok (.iload_n 3, 1) := by decide +kernel
theorem dd_W_spoil_57 : decode cc_W_spoil 57 = .ok (.ixor, 1) := by decide +kernel
theorem dd_W_spoil_58 : decode cc_W_spoil 58 = .ok (.iastore, 1) := by decide +kernel
theorem dd_W_spoil_59 : decode cc_W_spoil 59 = .ok (.iconst 1, 1) := by decide +kernel
theorem dd_W_spoil_60 : decode cc_W_spoil 60 = .ok (.ireturn, 1) := by decide +kernel
theorem dd_W_frames_0 : decode cc_W_frames 0 = .ok (.aload_n 0, 1) := by decide +kernel
theorem dd_W_frames_1 : decode cc_W_frames 1 = .ok (.getfield 10, 3) := by decide +kernel
theorem dd_W_frames_4 : decode cc_W_frames 4 = .ok (.getfield 134, 3) := by decide +kernel
theorem dd_W_frames_7 : decode cc_W_frames 7 = .ok (.ireturn, 1) := by decide +kernel
theorem dd_W_length_0 : decode cc_W_length 0 = .ok (.aload_n 0, 1) := by decide +kernel
theorem dd_W_length_1 : decode cc_W_length 1 = .ok (.getfield 10, 3) := by decide +kernel
theorem dd_W_length_4 : decode cc_W_length 4 = .ok (.iload_n 1, 1) := by decide +kernel
theorem dd_W_length_5 : decode cc_W_length 5 = .ok (.invokevirtual 93, 3) := by decide +kernel
theorem dd_W_length_8 : decode cc_W_length 8 = .ok (.ifCond .eq 18, 3) := by decide +kernel
theorem dd_W_length_11 : decode cc_W_length 11 = .ok (.aload_n 0, 1) := by decide +kernel
theorem dd_W_length_12 : decode cc_W_length 12 = .ok (.getfield 10, 3) := by decide +kernel
theorem dd_W_length_15 : decode cc_W_length 15 = .ok (.getfield 96, 3) := by decide +kernel
theorem dd_W_length_18 : decode cc_W_length 18 = .ok (.iload_n 1, 1) := by decide +kernel
theorem dd_W_length_19 : decode cc_W_length 19 = .ok (.aaload, 1) := by decide +kernel
theorem dd_W_length_20 : decode cc_W_length 20 = .ok (.getfield 137, 3) := by decide +kernel
theorem dd_W_length_23 : decode cc_W_length 23 = .ok (.goto 4, 3) := by decide +kernel
theorem dd_W_length_26 : decode cc_W_length 26 = .ok (.iconst (-1), 1) := by decide +kernel
theorem dd_W_length_27 : decode cc_W_length 27 = .ok (.ireturn, 1) := by decide +kernel
theorem dd_W_octet_0 : decode cc_W_octet 0 = .ok (.aload_n 0, 1) := by decide +kernel
theorem dd_W_octet_1 : decode cc_W_octet 1 = .ok (.getfield 10, 3) := by decide +kernel
theorem dd_W_octet_4 : decode cc_W_octet 4 = .ok (.iload_n 1, 1) := by decide +kernel
theorem dd_W_octet_5 : decode cc_W_octet 5 = .ok (.invokevirtual 93, 3) := by decide +kernel
theorem dd_W_octet_8 : decode cc_W_octet 8 = .ok (.ifCond .eq 36, 3) := by decide +kernel
theorem dd_W_octet_11 : decode cc_W_octet 11 = .ok (.aload_n 0, 1) := by decide +kernel
theorem dd_W_octet_12 : decode cc_W_octet 12 = .ok (.getfield 10, 3) := by decide +kernel
theorem dd_W_octet_15 : decode cc_W_octet 15 = .ok (.getfield 96, 3) := by decide +kernel
theorem dd_W_octet_18 : decode cc_W_octet 18 = .ok (.iload_n 1, 1) := by decide +kernel
theorem dd_W_octet_19 : decode cc_W_octet 19 = .ok (.aaload, 1) := by decide +kernel
theorem dd_W_octet_20 : decode cc_W_octet 20 = .ok (.iload_n 2, 1) := by decide +kernel
theorem dd_W_octet_21 : decode cc_W_octet 21 = .ok (.invokevirtual 133, 3) := by decide +kernel
theorem dd_W_octet_24 : decode cc_W_octet 24 = .ok (.ifCond .eq 20, 3) := by decide +kernel
theorem dd_W_octet_27 : decode cc_W_octet 27 = .ok (.aload_n 0, 1) := by decide +kernel
theorem dd_W_octet_28 : decode cc_W_octet 28 = .ok (.getfield 10, 3) := by decide +kernel
theorem dd_W_octet_31 : decode cc_W_octet 31 = .ok (.getfield 96, 3) := by decide +kernel
theorem dd_W_octet_34 : decode cc_W_octet 34 = .ok (.iload_n 1, 1) := by decide +kernel
theorem dd_W_octet_35 : decode cc_W_octet 35 = .ok (.aaload, 1) := by decide +kernel
theorem dd_W_octet_36 : decode cc_W_octet 36 = .ok (.getfield 115, 3) := by decide +kernel
theorem dd_W_octet_39 : decode cc_W_octet 39 = .ok (.iload_n 2, 1) := by decide +kernel
theorem dd_W_octet_40 : decode cc_W_octet 40 = .ok (.iaload, 1) := by decide +kernel
theorem dd_W_octet_41 : decode cc_W_octet 41 = .ok (.goto 4, 3) := by decide +kernel
theorem dd_W_octet_44 : decode cc_W_octet 44 = .ok (.iconst (-1), 1) := by decide +kernel
theorem dd_W_octet_45 : decode cc_W_octet 45 = .ok (.ireturn, 1) := by decide +kernel
theorem dd_W_goal_0 : decode cc_W_goal 0 = .ok (.aload_n 0, 1) := by decide +kernel
theorem dd_W_goal_1 : decode cc_W_goal 1 = .ok (.getfield 10, 3) := by decide +kernel
theorem dd_W_goal_4 : decode cc_W_goal 4 = .ok (.iload_n 1, 1) := by decide +kernel
theorem dd_W_goal_5 : decode cc_W_goal 5 = .ok (.invokevirtual 93, 3) := by decide +kernel
theorem dd_W_goal_8 : decode cc_W_goal 8 = .ok (.ifCond .eq 18, 3) := by decide +kernel
theorem dd_W_goal_11 : decode cc_W_goal 11 = .ok (.aload_n 0, 1) := by decide +kernel
theorem dd_W_goal_12 : decode cc_W_goal 12 = .ok (.getfield 10, 3) := by decide +kernel
theorem dd_W_goal_15 : decode cc_W_goal 15 = .ok (.getfield 96, 3) := by decide +kernel
theorem dd_W_goal_18 : decode cc_W_goal 18 = .ok (.iload_n 1, 1) := by decide +kernel
theorem dd_W_goal_19 : decode cc_W_goal 19 = .ok (.aaload, 1) := by decide +kernel
theorem dd_W_goal_20 : decode cc_W_goal 20 = .ok (.getfield 100, 3) := by decide +kernel
theorem dd_W_goal_23 : decode cc_W_goal 23 = .ok (.goto 4, 3) := by decide +kernel
theorem dd_W_goal_26 : decode cc_W_goal 26 = .ok (.iconst (-1), 1) := by decide +kernel
theorem dd_W_goal_27 : decode cc_W_goal 27 = .ok (.ireturn, 1) := by decide +kernel
theorem dd_W_state_0 : decode cc_W_state 0 = .ok (.iload_n 1, 1) := by decide +kernel
theorem dd_W_state_1 : decode cc_W_state 1 = .ok (.invokestatic 45, 3) := by decide +kernel
theorem dd_W_state_4 : decode cc_W_state 4 = .ok (.ifCond .ne 5, 3) := by decide +kernel
theorem dd_W_state_7 : decode cc_W_state 7 = .ok (.iconst (-1), 1) := by decide +kernel
theorem dd_W_state_8 : decode cc_W_state 8 = .ok (.ireturn, 1) := by decide +kernel
theorem dd_W_state_9 : decode cc_W_state 9 = .ok (.aload_n 0, 1) := by decide +kernel
theorem dd_W_state_10 : decode cc_W_state 10 = .ok (.getfield 18, 3) := by decide +kernel
theorem dd_W_state_13 : decode cc_W_state 13 = .ok (.iload_n 1, 1) := by decide +kernel
theorem dd_W_state_14 : decode cc_W_state 14 = .ok (.aaload, 1) := by decide +kernel
theorem dd_W_state_15 : decode cc_W_state 15 = .ok (.getfield 138, 3) := by decide +kernel
theorem dd_W_state_18 : decode cc_W_state 18 = .ok (.aload_n 0, 1) := by decide +kernel
theorem dd_W_state_19 : decode cc_W_state 19 = .ok (.getfield 18, 3) := by decide +kernel
theorem dd_W_state_22 : decode cc_W_state 22 = .ok (.iload_n 1, 1) := by decide +kernel
theorem dd_W_state_23 : decode cc_W_state 23 = .ok (.aaload, 1) := by decide +kernel
theorem dd_W_state_24 : decode cc_W_state 24 = .ok (.getfield 49, 3) := by decide +kernel
theorem dd_W_state_27 : decode cc_W_state 27 = .ok (.ifCond .eq 8, 3) := by decide +kernel
theorem dd_W_state_30 : decode cc_W_state 30 = .ok (.bipush 10, 2) := by decide +kernel
theorem dd_W_state_32 : decode cc_W_state 32 = .ok (.goto 4, 3) := by decide +kernel
theorem dd_W_state_35 : decode cc_W_state 35 = .ok (.iconst 0, 1) := by decide +kernel
theorem dd_W_state_36 : decode cc_W_state 36 = .ok (.iadd, 1) := by decide +kernel
theorem dd_W_state_37 : decode cc_W_state 37 = .ok (.ireturn, 1) := by decide +kernel
