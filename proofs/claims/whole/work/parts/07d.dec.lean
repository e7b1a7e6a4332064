theorem dd_R_derive_0 : decode cc_R_derive 0 = .ok (.iconst 1, 1) := by decide +kernel
theorem dd_R_derive_1 : decode cc_R_derive 1 = .ok (.istore 5, 2) := by decide +kernel
theorem dd_R_derive_3 : decode cc_R_derive 3 = .ok (.iload 5, 2) := by decide +kernel
theorem dd_R_derive_5 : decode cc_R_derive 5 = .ok (.iconst 2, 1) := by decide +kernel
theorem dd_R_derive_6 : decode cc_R_derive 6 = .ok (.if_icmp .gt 157, 3) := by decide +kernel
theorem dd_R_derive_9 : decode cc_R_derive 9 = .ok (.iconst 0, 1) := by decide +kernel
theorem dd_R_derive_10 : decode cc_R_derive 10 = .ok (.istore 6, 2) := by decide +kernel
theorem dd_R_derive_12 : decode cc_R_derive 12 = .ok (.iload 6, 2) := by decide +kernel
theorem dd_R_derive_14 : decode cc_R_derive 14 = .ok (.bipush 16, 2) := by decide +kernel
theorem dd_R_derive_16 : decode cc_R_derive 16 = .ok (.if_icmp .ge 17, 3) := by decide +kernel
theorem dd_R_derive_19 : decode cc_R_derive 19 = .ok (.aload_n 0, 1) := by decide +kernel
theorem dd_R_derive_20 : decode cc_R_derive 20 = .ok (.getfield 19, 3) := by decide +kernel
theorem dd_R_derive_23 : decode cc_R_derive 23 = .ok (.iload 6, 2) := by decide +kernel
theorem dd_R_derive_25 : decode cc_R_derive 25 = .ok (.iconst 0, 1) := by decide +kernel
theorem dd_R_derive_26 : decode cc_R_derive 26 = .ok (.iastore, 1) := by decide +kernel
theorem dd_R_derive_27 : decode cc_R_derive 27 = .ok (.iinc 6 1, 3) := by decide +kernel
theorem dd_R_derive_30 : decode cc_R_derive 30 = .ok (.goto (-18), 3) := by decide +kernel
theorem dd_R_derive_33 : decode cc_R_derive 33 = .ok (.aload_n 0, 1) := by decide +kernel
theorem dd_R_derive_34 : decode cc_R_derive 34 = .ok (.getfield 19, 3) := by decide +kernel
theorem dd_R_derive_37 : decode cc_R_derive 37 = .ok (.iconst 0, 1) := by decide +kernel
theorem dd_R_derive_38 : decode cc_R_derive 38 = .ok (.iload 5, 2) := by decide +kernel
theorem dd_R_derive_40 : decode cc_R_derive 40 = .ok (.iastore, 1) := by decide +kernel
theorem dd_R_derive_41 : decode cc_R_derive 41 = .ok (.iconst 0, 1) := by decide +kernel
theorem dd_R_derive_42 : decode cc_R_derive 42 = .ok (.istore 6, 2) := by decide +kernel
theorem dd_R_derive_44 : decode cc_R_derive 44 = .ok (.iload 6, 2) := by decide +kernel
theorem dd_R_derive_46 : decode cc_R_derive 46 = .ok (.iconst 3, 1) := by decide +kernel
theorem dd_R_derive_47 : decode cc_R_derive 47 = .ok (.if_icmp .ge 29, 3) := by decide +kernel
theorem dd_R_derive_50 : decode cc_R_derive 50 = .ok (.aload_n 0, 1) := by decide +kernel
theorem dd_R_derive_51 : decode cc_R_derive 51 = .ok (.getfield 19, 3) := by decide +kernel
theorem dd_R_derive_54 : decode cc_R_derive 54 = .ok (.iconst 1, 1) := by decide +kernel
theorem dd_R_derive_55 : decode cc_R_derive 55 = .ok (.iload 6, 2) := by decide +kernel
theorem dd_R_derive_57 : decode cc_R_derive 57 = .ok (.iadd, 1) := by decide +kernel
theorem dd_R_derive_58 : decode cc_R_derive 58 = .ok (.iload_n 2, 1) := by decide +kernel
theorem dd_R_derive_59 : decode cc_R_derive 59 = .ok (.bipush 8, 2) := by decide +kernel
theorem dd_R_derive_61 : decode cc_R_derive 61 = .ok (.iload 6, 2) := by decide +kernel
theorem dd_R_derive_63 : decode cc_R_derive 63 = .ok (.imul, 1) := by decide +kernel
theorem dd_R_derive_64 : decode cc_R_derive 64 = .ok (.ishr, 1) := by decide +kernel
theorem dd_R_derive_65 : decode cc_R_derive 65 = .ok (.sipush 255, 3) := by decide +kernel
theorem dd_R_derive_68 : decode cc_R_derive 68 = .ok (.iand, 1) := by decide +kernel
theorem dd_R_derive_69 : decode cc_R_derive 69 = .ok (.iastore, 1) := by decide +kernel
theorem dd_R_derive_70 : decode cc_R_derive 70 = .ok (.iinc 6 1, 3) := by decide +kernel
theorem dd_R_derive_73 : decode cc_R_derive 73 = .ok (.goto (-29), 3) := by decide +kernel
theorem dd_R_derive_76 : decode cc_R_derive 76 = .ok (.aload_n 0, 1) := by decide +kernel
theorem dd_R_derive_77 : decode cc_R_derive 77 = .ok (.getfield 19, 3) := by decide +kernel
theorem dd_R_derive_80 : decode cc_R_derive 80 = .ok (.iconst 4, 1) := by decide +kernel
theorem dd_R_derive_81 : decode cc_R_derive 81 = .ok (.bipush 19, 2) := by decide +kernel
theorem dd_R_derive_83 : decode cc_R_derive 83 = .ok (.iastore, 1) := by decide +kernel
theorem dd_R_derive_84 : decode cc_R_derive 84 = .ok (.aload_n 0, 1) := by decide +kernel
theorem dd_R_derive_85 : decode cc_R_derive 85 = .ok (.getfield 19, 3) := by decide +kernel
theorem dd_R_derive_88 : decode cc_R_derive 88 = .ok (.bipush 7, 2) := by decide +kernel
theorem dd_R_derive_90 : decode cc_R_derive 90 = .ok (.iload_n 3, 1) := by decide +kernel
theorem dd_R_derive_91 : decode cc_R_derive 91 = .ok (.sipush 255, 3) := by decide +kernel
theorem dd_R_derive_94 : decode cc_R_derive 94 = .ok (.iand, 1) := by decide +kernel
theorem dd_R_derive_95 : decode cc_R_derive 95 = .ok (.iastore, 1) := by decide +kernel
theorem dd_R_derive_96 : decode cc_R_derive 96 = .ok (.aload_n 0, 1) := by decide +kernel
theorem dd_R_derive_97 : decode cc_R_derive 97 = .ok (.getfield 19, 3) := by decide +kernel
theorem dd_R_derive_100 : decode cc_R_derive 100 = .ok (.bipush 8, 2) := by decide +kernel
theorem dd_R_derive_102 : decode cc_R_derive 102 = .ok (.iload_n 3, 1) := by decide +kernel
theorem dd_R_derive_103 : decode cc_R_derive 103 = .ok (.bipush 8, 2) := by decide +kernel
theorem dd_R_derive_105 : decode cc_R_derive 105 = .ok (.ishr, 1) := by decide +kernel
theorem dd_R_derive_106 : decode cc_R_derive 106 = .ok (.sipush 255, 3) := by decide +kernel
theorem dd_R_derive_109 : decode cc_R_derive 109 = .ok (.iand, 1) := by decide +kernel
theorem dd_R_derive_110 : decode cc_R_derive 110 = .ok (.iastore, 1) := by decide +kernel
theorem dd_R_derive_111 : decode cc_R_derive 111 = .ok (.aload_n 0, 1) := by decide +kernel
theorem dd_R_derive_112 : decode cc_R_derive 112 = .ok (.iload_n 1, 1) := by decide +kernel
theorem dd_R_derive_113 : decode cc_R_derive 113 = .ok (.invokevirtual 149, 3) := by decide +kernel
theorem dd_R_derive_116 : decode cc_R_derive 116 = .ok (.iconst 0, 1) := by decide +kernel
theorem dd_R_derive_117 : decode cc_R_derive 117 = .ok (.istore 6, 2) := by decide +kernel
theorem dd_R_derive_119 : decode cc_R_derive 119 = .ok (.iload 6, 2) := by decide +kernel
theorem dd_R_derive_121 : decode cc_R_derive 121 = .ok (.bipush 16, 2) := by decide +kernel
theorem dd_R_derive_123 : decode cc_R_derive 123 = .ok (.if_icmp .ge 34, 3) := by decide +kernel
theorem dd_R_derive_126 : decode cc_R_derive 126 = .ok (.aload_n 0, 1) := by decide +kernel
theorem dd_R_derive_127 : decode cc_R_derive 127 = .ok (.getfield 28, 3) := by decide +kernel
theorem dd_R_derive_130 : decode cc_R_derive 130 = .ok (.bipush 16, 2) := by decide +kernel
theorem dd_R_derive_132 : decode cc_R_derive 132 = .ok (.iload 4, 2) := by decide +kernel
theorem dd_R_derive_134 : decode cc_R_derive 134 = .ok (.iload 5, 2) := by decide +kernel
theorem dd_R_derive_136 : decode cc_R_derive 136 = .ok (.iadd, 1) := by decide +kernel
theorem dd_R_derive_137 : decode cc_R_derive 137 = .ok (.iconst 1, 1) := by decide +kernel
theorem dd_R_derive_138 : decode cc_R_derive 138 = .ok (.isub, 1) := by decide +kernel
theorem dd_R_derive_139 : decode cc_R_derive 139 = .ok (.imul, 1) := by decide +kernel
theorem dd_R_derive_140 : decode cc_R_derive 140 = .ok (.iload 6, 2) := by decide +kernel
theorem dd_R_derive_142 : decode cc_R_derive 142 = .ok (.iadd, 1) := by decide +kernel
theorem dd_R_derive_143 : decode cc_R_derive 143 = .ok (.aload_n 0, 1) := by decide +kernel
theorem dd_R_derive_144 : decode cc_R_derive 144 = .ok (.getfield 19, 3) := by decide +kernel
theorem dd_R_derive_147 : decode cc_R_derive 147 = .ok (.iload 6, 2) := by decide +kernel
theorem dd_R_derive_149 : decode cc_R_derive 149 = .ok (.iaload, 1) := by decide +kernel
theorem dd_R_derive_150 : decode cc_R_derive 150 = .ok (.iastore, 1) := by decide +kernel
theorem dd_R_derive_151 : decode cc_R_derive 151 = .ok (.iinc 6 1, 3) := by decide +kernel
theorem dd_R_derive_154 : decode cc_R_derive 154 = .ok (.goto (-35), 3) := by decide +kernel
theorem dd_R_derive_157 : decode cc_R_derive 157 = .ok (.iinc 5 1, 3) := by decide +kernel
theorem dd_R_derive_160 : decode cc_R_derive 160 = .ok (.goto (-157), 3) := by decide +kernel
theorem dd_R_derive_163 : decode cc_R_derive 163 = .ok (.return_, 1) := by decide +kernel
theorem dd_R_at_0 : decode cc_R_at 0 = .ok (.aload_n 0, 1) := by decide +kernel
theorem dd_R_at_1 : decode cc_R_at 1 = .ok (.getfield 34, 3) := by decide +kernel
theorem dd_R_at_4 : decode cc_R_at 4 = .ok (.bipush 32, 2) := by decide +kernel
theorem dd_R_at_6 : decode cc_R_at 6 = .ok (.iload_n 1, 1) := by decide +kernel
theorem dd_R_at_7 : decode cc_R_at 7 = .ok (.imul, 1) := by decide +kernel
theorem dd_R_at_8 : decode cc_R_at 8 = .ok (.iload_n 2, 1) := by decide +kernel
theorem dd_R_at_9 : decode cc_R_at 9 = .ok (.iadd, 1) := by decide +kernel
theorem dd_R_at_10 : decode cc_R_at 10 = .ok (.iaload, 1) := by decide +kernel
theorem dd_R_at_11 : decode cc_R_at 11 = .ok (.ireturn, 1) := by decide +kernel
theorem dd_R_write_0 : decode cc_R_write 0 = .ok (.aload_n 0, 1) := by decide +kernel
theorem dd_R_write_1 : decode cc_R_write 1 = .ok (.getfield 34, 3) := by decide +kernel
theorem dd_R_write_4 : decode cc_R_write 4 = .ok (.bipush 32, 2) := by decide +kernel
theorem dd_R_write_6 : decode cc_R_write 6 = .ok (.iload_n 1, 1) := by decide +kernel
theorem dd_R_write_7 : decode cc_R_write 7 = .ok (.imul, 1) := by decide +kernel
theorem dd_R_write_8 : decode cc_R_write 8 = .ok (.aload_n 0, 1) := by decide +kernel
theorem dd_R_write_9 : decode cc_R_write 9 = .ok (.getfield 37, 3) := by decide +kernel
theorem dd_R_write_12 : decode cc_R_write 12 = .ok (.iload_n 1, 1) := by decide +kernel
theorem dd_R_write_13 : decode cc_R_write 13 = .ok (.iaload, 1) := by decide +kernel
theorem dd_R_write_14 : decode cc_R_write 14 = .ok (.iadd, 1) := by decide +kernel
theorem dd_R_write_15 : decode cc_R_write 15 = .ok (.iload_n 2, 1) := by decide +kernel
theorem dd_R_write_16 : decode cc_R_write 16 = .ok (.sipush 255, 3) := by decide +kernel
theorem dd_R_write_19 : decode cc_R_write 19 = .ok (.iand, 1) := by decide +kernel
theorem dd_R_write_20 : decode cc_R_write 20 = .ok (.iastore, 1) := by decide +kernel
theorem dd_R_write_21 : decode cc_R_write 21 = .ok (.aload_n 0, 1) := by decide +kernel
theorem dd_R_write_22 : decode cc_R_write 22 = .ok (.getfield 37, 3) := by decide +kernel
theorem dd_R_write_25 : decode cc_R_write 25 = .ok (.iload_n 1, 1) := by decide +kernel
theorem dd_R_write_26 : decode cc_R_write 26 = .ok (.dup2, 1) := by decide +kernel
theorem dd_R_write_27 : decode cc_R_write 27 = .ok (.iaload, 1) := by decide +kernel
theorem dd_R_write_28 : decode cc_R_write 28 = .ok (.iconst 1, 1) := by decide +kernel
theorem dd_R_write_29 : decode cc_R_write 29 = .ok (.iadd, 1) := by decide +kernel
theorem dd_R_write_30 : decode cc_R_write 30 = .ok (.iastore, 1) := by decide +kernel
theorem dd_R_write_31 : decode cc_R_write 31 = .ok (.return_, 1) := by decide +kernel
theorem dd_R_writeNumber_0 : decode cc_R_writeNumber 0 = .ok (.iconst 0, 1) := by decide +kernel
theorem dd_R_writeNumber_1 : decode cc_R_writeNumber 1 = .ok (.istore 4, 2) := by decide +kernel
theorem dd_R_writeNumber_3 : decode cc_R_writeNumber 3 = .ok (.iload 4, 2) := by decide +kernel
theorem dd_R_writeNumber_5 : decode cc_R_writeNumber 5 = .ok (.iload_n 3, 1) := by decide +kernel
theorem dd_R_writeNumber_6 : decode cc_R_writeNumber 6 = .ok (.if_icmp .ge 21, 3) := by decide +kernel
theorem dd_R_writeNumber_9 : decode cc_R_writeNumber 9 = .ok (.aload_n 0, 1) := by decide +kernel
theorem dd_R_writeNumber_10 : decode cc_R_writeNumber 10 = .ok (.iload_n 1, 1) := by decide +kernel
theorem dd_R_writeNumber_11 : decode cc_R_writeNumber 11 = .ok (.iload_n 2, 1) := by decide +kernel
theorem dd_R_writeNumber_12 : decode cc_R_writeNumber 12 = .ok (.bipush 8, 2) := by decide +kernel
theorem dd_R_writeNumber_14 : decode cc_R_writeNumber 14 = .ok (.iload 4, 2) := by decide +kernel
theorem dd_R_writeNumber_16 : decode cc_R_writeNumber 16 = .ok (.imul, 1) := by decide +kernel
theorem dd_R_writeNumber_17 : decode cc_R_writeNumber 17 = .ok (.ishr, 1) := by decide +kernel
theorem dd_R_writeNumber_18 : decode cc_R_writeNumber 18 = .ok (.invokevirtual 155, 3) := by decide +kernel
theorem dd_R_writeNumber_21 : decode cc_R_writeNumber 21 = .ok (.iinc 4 1, 3) := by decide +kernel
theorem dd_R_writeNumber_24 : decode cc_R_writeNumber 24 = .ok (.goto (-21), 3) := by decide +kernel
theorem dd_R_writeNumber_27 : decode cc_R_writeNumber 27 = .ok (.return_, 1) := by decide +kernel
theorem dd_R_numberAt_0 : decode cc_R_numberAt 0 = .ok (.iconst 0, 1) := by decide +kernel
theorem dd_R_numberAt_1 : decode cc_R_numberAt 1 = .ok (.istore 4, 2) := by decide +kernel
theorem dd_R_numberAt_3 : decode cc_R_numberAt 3 = .ok (.iconst 0, 1) := by decide +kernel
theorem dd_R_numberAt_4 : decode cc_R_numberAt 4 = .ok (.istore 5, 2) := by decide +kernel
theorem dd_R_numberAt_6 : decode cc_R_numberAt 6 = .ok (.iload 5, 2) := by decide +kernel
theorem dd_R_numberAt_8 : decode cc_R_numberAt 8 = .ok (.iload_n 3, 1) := by decide +kernel
theorem dd_R_numberAt_9 : decode cc_R_numberAt 9 = .ok (.if_icmp .ge 29, 3) := by decide +kernel
theorem dd_R_numberAt_12 : decode cc_R_numberAt 12 = .ok (.iload 4, 2) := by decide +kernel
theorem dd_R_numberAt_14 : decode cc_R_numberAt 14 = .ok (.aload_n 0, 1) := by decide +kernel
theorem dd_R_numberAt_15 : decode cc_R_numberAt 15 = .ok (.iload_n 1, 1) := by decide +kernel
theorem dd_R_numberAt_16 : decode cc_R_numberAt 16 = .ok (.iload_n 2, 1) := by decide +kernel
theorem dd_R_numberAt_17 : decode cc_R_numberAt 17 = .ok (.iload 5, 2) := by decide +kernel
theorem dd_R_numberAt_19 : decode cc_R_numberAt 19 = .ok (.iadd, 1) := by decide +kernel
theorem dd_R_numberAt_20 : decode cc_R_numberAt 20 = .ok (.invokevirtual 158, 3) := by decide +kernel
theorem dd_R_numberAt_23 : decode cc_R_numberAt 23 = .ok (.bipush 8, 2) := by decide +kernel
theorem dd_R_numberAt_25 : decode cc_R_numberAt 25 = .ok (.iload 5, 2) := by decide +kernel
theorem dd_R_numberAt_27 : decode cc_R_numberAt 27 = .ok (.imul, 1) := by decide +kernel
theorem dd_R_numberAt_28 : decode cc_R_numberAt 28 = .ok (.ishl, 1) := by decide +kernel
theorem dd_R_numberAt_29 : decode cc_R_numberAt 29 = .ok (.ior, 1) := by decide +kernel
theorem dd_R_numberAt_30 : decode cc_R_numberAt 30 = .ok (.istore 4, 2) := by decide +kernel
theorem dd_R_numberAt_32 : decode cc_R_numberAt 32 = .ok (.iinc 5 1, 3) := by decide +kernel
theorem dd_R_numberAt_35 : decode cc_R_numberAt 35 = .ok (.goto (-29), 3) := by decide +kernel
theorem dd_R_numberAt_38 : decode cc_R_numberAt 38 = .ok (.iload 4, 2) := by decide +kernel
theorem dd_R_numberAt_40 : decode cc_R_numberAt 40 = .ok (.ireturn, 1) := by decide +kernel
theorem dd_R_copyFrame_0 : decode cc_R_copyFrame 0 = .ok (.iconst 0, 1) := by decide +kernel
theorem dd_R_copyFrame_1 : decode cc_R_copyFrame 1 = .ok (.istore_n 3, 1) := by decide +kernel
theorem dd_R_copyFrame_2 : decode cc_R_copyFrame 2 = .ok (.iload_n 3, 1) := by decide +kernel
theorem dd_R_copyFrame_3 : decode cc_R_copyFrame 3 = .ok (.bipush 32, 2) := by decide +kernel
theorem dd_R_copyFrame_5 : decode cc_R_copyFrame 5 = .ok (.if_icmp .ge 31, 3) := by decide +kernel
theorem dd_R_copyFrame_8 : decode cc_R_copyFrame 8 = .ok (.aload_n 0, 1) := by decide +kernel
theorem dd_R_copyFrame_9 : decode cc_R_copyFrame 9 = .ok (.getfield 34, 3) := by decide +kernel
theorem dd_R_copyFrame_12 : decode cc_R_copyFrame 12 = .ok (.bipush 32, 2) := by decide +kernel
theorem dd_R_copyFrame_14 : decode cc_R_copyFrame 14 = .ok (.iload_n 2, 1) := by decide +kernel
theorem dd_R_copyFrame_15 : decode cc_R_copyFrame 15 = .ok (.imul, 1) := by decide +kernel
theorem dd_R_copyFrame_16 : decode cc_R_copyFrame 16 = .ok (.iload_n 3, 1) := by decide +kernel
theorem dd_R_copyFrame_17 : decode cc_R_copyFrame 17 = .ok (.iadd, 1) := by decide +kernel
theorem dd_R_copyFrame_18 : decode cc_R_copyFrame 18 = .ok (.aload_n 0, 1) := by decide +kernel
theorem dd_R_copyFrame_19 : decode cc_R_copyFrame 19 = .ok (.getfield 34, 3) := by decide +kernel
theorem dd_R_copyFrame_22 : decode cc_R_copyFrame 22 = .ok (.bipush 32, 2) := by decide +kernel
theorem dd_R_copyFrame_24 : decode cc_R_copyFrame 24 = .ok (.iload_n 1, 1) := by decide +kernel
theorem dd_R_copyFrame_25 : decode cc_R_copyFrame 25 = .ok (.imul, 1) := by decide +kernel
theorem dd_R_copyFrame_26 : decode cc_R_copyFrame 26 = .ok (.iload_n 3, 1) := by decide +kernel
theorem dd_R_copyFrame_27 : decode cc_R_copyFrame 27 = .ok (.iadd, 1) := by decide +kernel
theorem dd_R_copyFrame_28 : decode cc_R_copyFrame 28 = .ok (.iaload, 1) := by decide +kernel
theorem dd_R_copyFrame_29 : decode cc_R_copyFrame 29 = .ok (.iastore, 1) := by decide +kernel
theorem dd_R_copyFrame_30 : decode cc_R_copyFrame 30 = .ok (.iinc 3 1, 3) := by decide +kernel
theorem dd_R_copyFrame_33 : decode cc_R_copyFrame 33 = .ok (.goto (-31), 3) := by decide +kernel
theorem dd_R_copyFrame_36 : decode cc_R_copyFrame 36 = .ok (.aload_n 0, 1) := by decide +kernel
theorem dd_R_copyFrame_37 : decode cc_R_copyFrame 37 = .ok (.getfield 37, 3) := by decide +kernel
theorem dd_R_copyFrame_40 : decode cc_R_copyFrame 40 = .ok (.iload_n 2, 1) := by decide +kernel
theorem dd_R_copyFrame_41 : decode cc_R_copyFrame 41 = .ok (.aload_n 0, 1) := by decide +kernel
theorem dd_R_copyFrame_42 : decode cc_R_copyFrame 42 = .ok (.getfield 37, 3) := by decide +kernel
theorem dd_R_copyFrame_45 : decode cc_R_copyFrame 45 = .ok (.iload_n 1, 1) := by decide +kernel
theorem dd_R_copyFrame_46 : decode cc_R_copyFrame 46 = .ok (.iaload, 1) := by decide +kernel
theorem dd_R_copyFrame_47 : decode cc_R_copyFrame 47 = .ok (.iastore, 1) := by decide +kernel
theorem dd_R_copyFrame_48 : decode cc_R_copyFrame 48 = .ok (.aload_n 0, 1) := by decide +kernel
theorem dd_R_copyFrame_49 : decode cc_R_copyFrame 49 = .ok (.getfield 40, 3) := by decide +kernel
theorem dd_R_copyFrame_52 : decode cc_R_copyFrame 52 = .ok (.iload_n 2, 1) := by decide +kernel
theorem dd_R_copyFrame_53 : decode cc_R_copyFrame 53 = .ok (.aload_n 0, 1) := by decide +kernel
theorem dd_R_copyFrame_54 : decode cc_R_copyFrame 54 = .ok (.getfield 40, 3) := by decide +kernel
theorem dd_R_copyFrame_57 : decode cc_R_copyFrame 57 = .ok (.iload_n 1, 1) := by decide +kernel
theorem dd_R_copyFrame_58 : decode cc_R_copyFrame 58 = .ok (.iaload, 1) := by decide +kernel
theorem dd_R_copyFrame_59 : decode cc_R_copyFrame 59 = .ok (.iastore, 1) := by decide +kernel
theorem dd_R_copyFrame_60 : decode cc_R_copyFrame 60 = .ok (.return_, 1) := by decide +kernel
theorem dd_R_post_0 : decode cc_R_post 0 = .ok (.aload_n 0, 1) := by decide +kernel
theorem dd_R_post_1 : decode cc_R_post 1 = .ok (.iload_n 1, 1) := by decide +kernel
theorem dd_R_post_2 : decode cc_R_post 2 = .ok (.bipush 12, 2) := by decide +kernel
theorem dd_R_post_4 : decode cc_R_post 4 = .ok (.aload_n 0, 1) := by decide +kernel
theorem dd_R_post_5 : decode cc_R_post 5 = .ok (.getfield 161, 3) := by decide +kernel
theorem dd_R_post_8 : decode cc_R_post 8 = .ok (.bipush 8, 2) := by decide +kernel
theorem dd_R_post_10 : decode cc_R_post 10 = .ok (.irem, 1) := by decide +kernel
theorem dd_R_post_11 : decode cc_R_post 11 = .ok (.iadd, 1) := by decide +kernel
theorem dd_R_post_12 : decode cc_R_post 12 = .ok (.invokevirtual 165, 3) := by decide +kernel
theorem dd_R_post_15 : decode cc_R_post 15 = .ok (.aload_n 0, 1) := by decide +kernel
theorem dd_R_post_16 : decode cc_R_post 16 = .ok (.dup, 1) := by decide +kernel
theorem dd_R_post_17 : decode cc_R_post 17 = .ok (.getfield 161, 3) := by decide +kernel
theorem dd_R_post_20 : decode cc_R_post 20 = .ok (.iconst 1, 1) := by decide +kernel
theorem dd_R_post_21 : decode cc_R_post 21 = .ok (.iadd, 1) := by decide +kernel
theorem dd_R_post_22 : decode cc_R_post 22 = .ok (.putfield 161, 3) := by decide +kernel
theorem dd_R_post_25 : decode cc_R_post 25 = .ok (.aload_n 0, 1) := by decide +kernel
theorem dd_R_post_26 : decode cc_R_post 26 = .ok (.getfield 168, 3) := by decide +kernel
theorem dd_R_post_29 : decode cc_R_post 29 = .ok (.bipush 12, 2) := by decide +kernel
theorem dd_R_post_31 : decode cc_R_post 31 = .ok (.if_icmp .ge 22, 3) := by decide +kernel
theorem dd_R_post_34 : decode cc_R_post 34 = .ok (.aload_n 0, 1) := by decide +kernel
theorem dd_R_post_35 : decode cc_R_post 35 = .ok (.iload_n 1, 1) := by decide +kernel
theorem dd_R_post_36 : decode cc_R_post 36 = .ok (.aload_n 0, 1) := by decide +kernel
theorem dd_R_post_37 : decode cc_R_post 37 = .ok (.getfield 168, 3) := by decide +kernel
theorem dd_R_post_40 : decode cc_R_post 40 = .ok (.invokevirtual 165, 3) := by decide +kernel
theorem dd_R_post_43 : decode cc_R_post 43 = .ok (.aload_n 0, 1) := by decide +kernel
theorem dd_R_post_44 : decode cc_R_post 44 = .ok (.dup, 1) := by decide +kernel
theorem dd_R_post_45 : decode cc_R_post 45 = .ok (.getfield 168, 3) := by decide +kernel
theorem dd_R_post_48 : decode cc_R_post 48 = .ok (.iconst 1, 1) := by decide +kernel
theorem dd_R_post_49 : decode cc_R_post 49 = .ok (.iadd, 1) := by decide +kernel
theorem dd_R_post_50 : decode cc_R_post 50 = .ok (.putfield 168, 3) := by decide +kernel
theorem dd_R_post_53 : decode cc_R_post 53 = .ok (.return_, 1) := by decide +kernel
theorem dd_R_leave_0 : decode cc_R_leave 0 = .ok (.aload_n 0, 1) := by decide +kernel
theorem dd_R_leave_1 : decode cc_R_leave 1 = .ok (.dup, 1) := by decide +kernel
theorem dd_R_leave_2 : decode cc_R_leave 2 = .ok (.getfield 168, 3) := by decide +kernel
theorem dd_R_leave_5 : decode cc_R_leave 5 = .ok (.iconst 1, 1) := by decide +kernel
theorem dd_R_leave_6 : decode cc_R_leave 6 = .ok (.isub, 1) := by decide +kernel
theorem dd_R_leave_7 : decode cc_R_leave 7 = .ok (.putfield 168, 3) := by decide +kernel
theorem dd_R_leave_10 : decode cc_R_leave 10 = .ok (.iload_n 1, 1) := by decide +kernel
theorem dd_R_leave_11 : decode cc_R_leave 11 = .ok (.istore_n 2, 1) := by decide +kernel
theorem dd_R_leave_12 : decode cc_R_leave 12 = .ok (.iload_n 2, 1) := by decide +kernel
theorem dd_R_leave_13 : decode cc_R_leave 13 = .ok (.aload_n 0, 1) := by decide +kernel
theorem dd_R_leave_14 : decode cc_R_leave 14 = .ok (.getfield 168, 3) := by decide +kernel
theorem dd_R_leave_17 : decode cc_R_leave 17 = .ok (.if_icmp .ge 17, 3) := by decide +kernel
theorem dd_R_leave_20 : decode cc_R_leave 20 = .ok (.aload_n 0, 1) := by decide +kernel
theorem dd_R_leave_21 : decode cc_R_leave 21 = .ok (.iload_n 2, 1) := by decide +kernel
theorem dd_R_leave_22 : decode cc_R_leave 22 = .ok (.iconst 1, 1) := by decide +kernel
theorem dd_R_leave_23 : decode cc_R_leave 23 = .ok (.iadd, 1) := by decide +kernel
theorem dd_R_leave_24 : decode cc_R_leave 24 = .ok (.iload_n 2, 1) := by decide +kernel
theorem dd_R_leave_25 : decode cc_R_leave 25 = .ok (.invokevirtual 165, 3) := by decide +kernel
theorem dd_R_leave_28 : decode cc_R_leave 28 = .ok (.iinc 2 1, 3) := by decide +kernel
theorem dd_R_leave_31 : decode cc_R_leave 31 = .ok (.goto (-19), 3) := by decide +kernel
theorem dd_R_leave_34 : decode cc_R_leave 34 = .ok (.return_, 1) := by decide +kernel
theorem dd_R_rowHead_0 : decode cc_R_rowHead 0 = .ok (.iconst 0, 1) := by decide +kernel
theorem dd_R_rowHead_1 : decode cc_R_rowHead 1 = .ok (.istore 5, 2) := by decide +kernel
theorem dd_R_rowHead_3 : decode cc_R_rowHead 3 = .ok (.iload 5, 2) := by decide +kernel
theorem dd_R_rowHead_5 : decode cc_R_rowHead 5 = .ok (.bipush 16, 2) := by decide +kernel
theorem dd_R_rowHead_7 : decode cc_R_rowHead 7 = .ok (.if_icmp .ge 17, 3) := by decide +kernel
theorem dd_R_rowHead_10 : decode cc_R_rowHead 10 = .ok (.aload_n 0, 1) := by decide +kernel
theorem dd_R_rowHead_11 : decode cc_R_rowHead 11 = .ok (.getfield 31, 3) := by decide +kernel
theorem dd_R_rowHead_14 : decode cc_R_rowHead 14 = .ok (.iload 5, 2) := by decide +kernel
theorem dd_R_rowHead_16 : decode cc_R_rowHead 16 = .ok (.iconst 0, 1) := by decide +kernel
theorem dd_R_rowHead_17 : decode cc_R_rowHead 17 = .ok (.iastore, 1) := by decide +kernel
theorem dd_R_rowHead_18 : decode cc_R_rowHead 18 = .ok (.iinc 5 1, 3) := by decide +kernel
theorem dd_R_rowHead_21 : decode cc_R_rowHead 21 = .ok (.goto (-18), 3) := by decide +kernel
theorem dd_R_rowHead_24 : decode cc_R_rowHead 24 = .ok (.aload_n 0, 1) := by decide +kernel
theorem dd_R_rowHead_25 : decode cc_R_rowHead 25 = .ok (.getfield 31, 3) := by decide +kernel
theorem dd_R_rowHead_28 : decode cc_R_rowHead 28 = .ok (.iconst 0, 1) := by decide +kernel
theorem dd_R_rowHead_29 : decode cc_R_rowHead 29 = .ok (.iload_n 1, 1) := by decide +kernel
theorem dd_R_rowHead_30 : decode cc_R_rowHead 30 = .ok (.iastore, 1) := by decide +kernel
theorem dd_R_rowHead_31 : decode cc_R_rowHead 31 = .ok (.aload_n 0, 1) := by decide +kernel
theorem dd_R_rowHead_32 : decode cc_R_rowHead 32 = .ok (.getfield 31, 3) := by decide +kernel
theorem dd_R_rowHead_35 : decode cc_R_rowHead 35 = .ok (.iconst 5, 1) := by decide +kernel
theorem dd_R_rowHead_36 : decode cc_R_rowHead 36 = .ok (.iload_n 2, 1) := by decide +kernel
theorem dd_R_rowHead_37 : decode cc_R_rowHead 37 = .ok (.iastore, 1) := by decide +kernel
theorem dd_R_rowHead_38 : decode cc_R_rowHead 38 = .ok (.iconst 0, 1) := by decide +kernel
theorem dd_R_rowHead_39 : decode cc_R_rowHead 39 = .ok (.istore 5, 2) := by decide +kernel
theorem dd_R_rowHead_41 : decode cc_R_rowHead 41 = .ok (.iload 5, 2) := by decide +kernel
theorem dd_R_rowHead_43 : decode cc_R_rowHead 43 = .ok (.iconst 4, 1) := by decide +kernel
theorem dd_R_rowHead_44 : decode cc_R_rowHead 44 = .ok (.if_icmp .ge 52, 3) := by decide +kernel
theorem dd_R_rowHead_47 : decode cc_R_rowHead 47 = .ok (.aload_n 0, 1) := by decide +kernel
theorem dd_R_rowHead_48 : decode cc_R_rowHead 48 = .ok (.getfield 31, 3) := by decide +kernel
theorem dd_R_rowHead_51 : decode cc_R_rowHead 51 = .ok (.bipush 6, 2) := by decide +kernel
theorem dd_R_rowHead_53 : decode cc_R_rowHead 53 = .ok (.iload 5, 2) := by decide +kernel
theorem dd_R_rowHead_55 : decode cc_R_rowHead 55 = .ok (.iadd, 1) := by decide +kernel
theorem dd_R_rowHead_56 : decode cc_R_rowHead 56 = .ok (.iload_n 3, 1) := by decide +kernel
theorem dd_R_rowHead_57 : decode cc_R_rowHead 57 = .ok (.bipush 8, 2) := by decide +kernel
theorem dd_R_rowHead_59 : decode cc_R_rowHead 59 = .ok (.iload 5, 2) := by decide +kernel
theorem dd_R_rowHead_61 : decode cc_R_rowHead 61 = .ok (.imul, 1) := by decide +kernel
theorem dd_R_rowHead_62 : decode cc_R_rowHead 62 = .ok (.ishr, 1) := by decide +kernel
theorem dd_R_rowHead_63 : decode cc_R_rowHead 63 = .ok (.sipush 255, 3) := by decide +kernel
theorem dd_R_rowHead_66 : decode cc_R_rowHead 66 = .ok (.iand, 1) := by decide +kernel
theorem dd_R_rowHead_67 : decode cc_R_rowHead 67 = .ok (.iastore, 1) := by decide +kernel
theorem dd_R_rowHead_68 : decode cc_R_rowHead 68 = .ok (.aload_n 0, 1) := by decide +kernel
theorem dd_R_rowHead_69 : decode cc_R_rowHead 69 = .ok (.getfield 31, 3) := by decide +kernel
theorem dd_R_rowHead_72 : decode cc_R_rowHead 72 = .ok (.bipush 10, 2) := by decide +kernel
theorem dd_R_rowHead_74 : decode cc_R_rowHead 74 = .ok (.iload 5, 2) := by decide +kernel
theorem dd_R_rowHead_76 : decode cc_R_rowHead 76 = .ok (.iadd, 1) := by decide +kernel
theorem dd_R_rowHead_77 : decode cc_R_rowHead 77 = .ok (.iload 4, 2) := by decide +kernel
theorem dd_R_rowHead_79 : decode cc_R_rowHead 79 = .ok (.bipush 8, 2) := by decide +kernel
theorem dd_R_rowHead_81 : decode cc_R_rowHead 81 = .ok (.iload 5, 2) := by decide +kernel
theorem dd_R_rowHead_83 : decode cc_R_rowHead 83 = .ok (.imul, 1) := by decide +kernel
theorem dd_R_rowHead_84 : decode cc_R_rowHead 84 = .ok (.ishr, 1) := by decide +kernel
theorem dd_R_rowHead_85 : decode cc_R_rowHead 85 = .ok (.sipush 255, 3) := by decide +kernel
theorem dd_R_rowHead_88 : decode cc_R_rowHead 88 = .ok (.iand, 1) := by decide +kernel
theorem dd_R_rowHead_89 : decode cc_R_rowHead 89 = .ok (.iastore, 1) := by decide +kernel
theorem dd_R_rowHead_90 : decode cc_R_rowHead 90 = .ok (.iinc 5 1, 3) := by decide +kernel
theorem dd_R_rowHead_93 : decode cc_R_rowHead 93 = .ok (.goto (-52), 3) := by decide +kernel
theorem dd_R_rowHead_96 : decode cc_R_rowHead 96 = .ok (.return_, 1) := by decide +kernel
theorem dd_R_dataCode_0 : decode cc_R_dataCode 0 = .ok (.aload_n 0, 1) := by decide +kernel
theorem dd_R_dataCode_1 : decode cc_R_dataCode 1 = .ok (.bipush 73, 2) := by decide +kernel
theorem dd_R_dataCode_3 : decode cc_R_dataCode 3 = .ok (.iload 4, 2) := by decide +kernel
theorem dd_R_dataCode_5 : decode cc_R_dataCode 5 = .ok (.iload 5, 2) := by decide +kernel
theorem dd_R_dataCode_7 : decode cc_R_dataCode 7 = .ok (.iload 6, 2) := by decide +kernel
theorem dd_R_dataCode_9 : decode cc_R_dataCode 9 = .ok (.invokevirtual 171, 3) := by decide +kernel
theorem dd_R_dataCode_12 : decode cc_R_dataCode 12 = .ok (.aload_n 0, 1) := by decide +kernel
theorem dd_R_dataCode_13 : decode cc_R_dataCode 13 = .ok (.getfield 31, 3) := by decide +kernel
theorem dd_R_dataCode_16 : decode cc_R_dataCode 16 = .ok (.bipush 15, 2) := by decide +kernel
theorem dd_R_dataCode_18 : decode cc_R_dataCode 18 = .ok (.iload_n 2, 1) := by decide +kernel
theorem dd_R_dataCode_19 : decode cc_R_dataCode 19 = .ok (.iastore, 1) := by decide +kernel
theorem dd_R_dataCode_20 : decode cc_R_dataCode 20 = .ok (.iconst 0, 1) := by decide +kernel
theorem dd_R_dataCode_21 : decode cc_R_dataCode 21 = .ok (.istore 7, 2) := by decide +kernel
theorem dd_R_dataCode_23 : decode cc_R_dataCode 23 = .ok (.iload 7, 2) := by decide +kernel
theorem dd_R_dataCode_25 : decode cc_R_dataCode 25 = .ok (.iload_n 2, 1) := by decide +kernel
theorem dd_R_dataCode_26 : decode cc_R_dataCode 26 = .ok (.if_icmp .ge 26, 3) := by decide +kernel
theorem dd_R_dataCode_29 : decode cc_R_dataCode 29 = .ok (.aload_n 0, 1) := by decide +kernel
theorem dd_R_dataCode_30 : decode cc_R_dataCode 30 = .ok (.getfield 31, 3) := by decide +kernel
theorem dd_R_dataCode_33 : decode cc_R_dataCode 33 = .ok (.bipush 16, 2) := by decide +kernel
theorem dd_R_dataCode_35 : decode cc_R_dataCode 35 = .ok (.iload 7, 2) := by decide +kernel
theorem dd_R_dataCode_37 : decode cc_R_dataCode 37 = .ok (.iadd, 1) := by decide +kernel
theorem dd_R_dataCode_38 : decode cc_R_dataCode 38 = .ok (.aload_n 0, 1) := by decide +kernel
theorem dd_R_dataCode_39 : decode cc_R_dataCode 39 = .ok (.iload_n 1, 1) := by decide +kernel
theorem dd_R_dataCode_40 : decode cc_R_dataCode 40 = .ok (.iload 7, 2) := by decide +kernel
theorem dd_R_dataCode_42 : decode cc_R_dataCode 42 = .ok (.invokevirtual 158, 3) := by decide +kernel
theorem dd_R_dataCode_45 : decode cc_R_dataCode 45 = .ok (.iastore, 1) := by decide +kernel
theorem dd_R_dataCode_46 : decode cc_R_dataCode 46 = .ok (.iinc 7 1, 3) := by decide +kernel
theorem dd_R_dataCode_49 : decode cc_R_dataCode 49 = .ok (.goto (-26), 3) := by decide +kernel
theorem dd_R_dataCode_52 : decode cc_R_dataCode 52 = .ok (.aload_n 0, 1) := by decide +kernel
theorem dd_R_dataCode_53 : decode cc_R_dataCode 53 = .ok (.iload_n 3, 1) := by decide +kernel
theorem dd_R_dataCode_54 : decode cc_R_dataCode 54 = .ok (.bipush 16, 2) := by decide +kernel
theorem dd_R_dataCode_56 : decode cc_R_dataCode 56 = .ok (.iload_n 2, 1) := by decide +kernel
theorem dd_R_dataCode_57 : decode cc_R_dataCode 57 = .ok (.iadd, 1) := by decide +kernel
theorem dd_R_dataCode_58 : decode cc_R_dataCode 58 = .ok (.invokevirtual 174, 3) := by decide +kernel
theorem dd_R_dataCode_61 : decode cc_R_dataCode 61 = .ok (.return_, 1) := by decide +kernel
theorem dd_R_rootCode_0 : decode cc_R_rootCode 0 = .ok (.iconst 0, 1) := by decide +kernel
theorem dd_R_rootCode_1 : decode cc_R_rootCode 1 = .ok (.istore 4, 2) := by decide +kernel
theorem dd_R_rootCode_3 : decode cc_R_rootCode 3 = .ok (.iload 4, 2) := by decide +kernel
theorem dd_R_rootCode_5 : decode cc_R_rootCode 5 = .ok (.iload_n 2, 1) := by decide +kernel
theorem dd_R_rootCode_6 : decode cc_R_rootCode 6 = .ok (.if_icmp .ge 23, 3) := by decide +kernel
theorem dd_R_rootCode_9 : decode cc_R_rootCode 9 = .ok (.aload_n 0, 1) := by decide +kernel
theorem dd_R_rootCode_10 : decode cc_R_rootCode 10 = .ok (.getfield 31, 3) := by decide +kernel
theorem dd_R_rootCode_13 : decode cc_R_rootCode 13 = .ok (.iload 4, 2) := by decide +kernel
theorem dd_R_rootCode_15 : decode cc_R_rootCode 15 = .ok (.aload_n 0, 1) := by decide +kernel
theorem dd_R_rootCode_16 : decode cc_R_rootCode 16 = .ok (.iload_n 1, 1) := by decide +kernel
theorem dd_R_rootCode_17 : decode cc_R_rootCode 17 = .ok (.iload 4, 2) := by decide +kernel
theorem dd_R_rootCode_19 : decode cc_R_rootCode 19 = .ok (.invokevirtual 158, 3) := by decide +kernel
theorem dd_R_rootCode_22 : decode cc_R_rootCode 22 = .ok (.iastore, 1) := by decide +kernel
theorem dd_R_rootCode_23 : decode cc_R_rootCode 23 = .ok (.iinc 4 1, 3) := by decide +kernel
theorem dd_R_rootCode_26 : decode cc_R_rootCode 26 = .ok (.goto (-23), 3) := by decide +kernel
theorem dd_R_rootCode_29 : decode cc_R_rootCode 29 = .ok (.aload_n 0, 1) := by decide +kernel
theorem dd_R_rootCode_30 : decode cc_R_rootCode 30 = .ok (.iload_n 3, 1) := by decide +kernel
theorem dd_R_rootCode_31 : decode cc_R_rootCode 31 = .ok (.iload_n 2, 1) := by decide +kernel
theorem dd_R_rootCode_32 : decode cc_R_rootCode 32 = .ok (.invokevirtual 174, 3) := by decide +kernel
theorem dd_R_rootCode_35 : decode cc_R_rootCode 35 = .ok (.return_, 1) := by decide +kernel
theorem dd_R_endsWithCode_0 : decode cc_R_endsWithCode 0 = .ok (.iconst 1, 1) := by decide +kernel
theorem dd_R_endsWithCode_1 : decode cc_R_endsWithCode 1 = .ok (.istore_n 2, 1) := by decide +kernel
theorem dd_R_endsWithCode_2 : decode cc_R_endsWithCode 2 = .ok (.iconst 0, 1) := by decide +kernel
theorem dd_R_endsWithCode_3 : decode cc_R_endsWithCode 3 = .ok (.istore_n 3, 1) := by decide +kernel
theorem dd_R_endsWithCode_4 : decode cc_R_endsWithCode 4 = .ok (.iload_n 3, 1) := by decide +kernel
theorem dd_R_endsWithCode_5 : decode cc_R_endsWithCode 5 = .ok (.iconst 4, 1) := by decide +kernel
theorem dd_R_endsWithCode_6 : decode cc_R_endsWithCode 6 = .ok (.if_icmp .ge 43, 3) := by decide +kernel
theorem dd_R_endsWithCode_9 : decode cc_R_endsWithCode 9 = .ok (.iload_n 2, 1) := by decide +kernel
theorem dd_R_endsWithCode_10 : decode cc_R_endsWithCode 10 = .ok (.ifCond .eq 31, 3) := by decide +kernel
theorem dd_R_endsWithCode_13 : decode cc_R_endsWithCode 13 = .ok (.aload_n 0, 1) := by decide +kernel
theorem dd_R_endsWithCode_14 : decode cc_R_endsWithCode 14 = .ok (.iload_n 1, 1) := by decide +kernel
theorem dd_R_endsWithCode_15 : decode cc_R_endsWithCode 15 = .ok (.aload_n 0, 1) := by decide +kernel
theorem dd_R_endsWithCode_16 : decode cc_R_endsWithCode 16 = .ok (.getfield 37, 3) := by decide +kernel
theorem dd_R_endsWithCode_19 : decode cc_R_endsWithCode 19 = .ok (.iload_n 1, 1) := by decide +kernel
theorem dd_R_endsWithCode_20 : decode cc_R_endsWithCode 20 = .ok (.iaload, 1) := by decide +kernel
theorem dd_R_endsWithCode_21 : decode cc_R_endsWithCode 21 = .ok (.iconst 4, 1) := by decide +kernel
theorem dd_R_endsWithCode_22 : decode cc_R_endsWithCode 22 = .ok (.isub, 1) := by decide +kernel
theorem dd_R_endsWithCode_23 : decode cc_R_endsWithCode 23 = .ok (.iload_n 3, 1) := by decide +kernel
theorem dd_R_endsWithCode_24 : decode cc_R_endsWithCode 24 = .ok (.iadd, 1) := by decide +kernel
theorem dd_R_endsWithCode_25 : decode cc_R_endsWithCode 25 = .ok (.invokevirtual 158, 3) := by decide +kernel
theorem dd_R_endsWithCode_28 : decode cc_R_endsWithCode 28 = .ok (.aload_n 0, 1) := by decide +kernel
theorem dd_R_endsWithCode_29 : decode cc_R_endsWithCode 29 = .ok (.getfield 25, 3) := by decide +kernel
theorem dd_R_endsWithCode_32 : decode cc_R_endsWithCode 32 = .ok (.iload_n 3, 1) := by decide +kernel
theorem dd_R_endsWithCode_33 : decode cc_R_endsWithCode 33 = .ok (.iaload, 1) := by decide +kernel
theorem dd_R_endsWithCode_34 : decode cc_R_endsWithCode 34 = .ok (.if_icmp .ne 7, 3) := by decide +kernel
theorem dd_R_endsWithCode_37 : decode cc_R_endsWithCode 37 = .ok (.iconst 1, 1) := by decide +kernel
theorem dd_R_endsWithCode_38 : decode cc_R_endsWithCode 38 = .ok (.goto 4, 3) := by decide +kernel
theorem dd_R_endsWithCode_41 : decode cc_R_endsWithCode 41 = .ok (.iconst 0, 1) := by decide +kernel
theorem dd_R_endsWithCode_42 : decode cc_R_endsWithCode 42 = .ok (.istore_n 2, 1) := by decide +kernel
theorem dd_R_endsWithCode_43 : decode cc_R_endsWithCode 43 = .ok (.iinc 3 1, 3) := by decide +kernel
theorem dd_R_endsWithCode_46 : decode cc_R_endsWithCode 46 = .ok (.goto (-42), 3) := by decide +kernel
theorem dd_R_endsWithCode_49 : decode cc_R_endsWithCode 49 = .ok (.iload_n 2, 1) := by decide +kernel
theorem dd_R_endsWithCode_50 : decode cc_R_endsWithCode 50 = .ok (.ireturn, 1) := by decide +kernel
theorem dd_R_enciphered_0 : decode cc_R_enciphered 0 = .ok (.aload_n 0, 1) := by decide +kernel
theorem dd_R_enciphered_1 : decode cc_R_enciphered 1 = .ok (.iconst 1, 1) := by decide +kernel
theorem dd_R_enciphered_2 : decode cc_R_enciphered 2 = .ok (.iload 5, 2) := by decide +kernel
theorem dd_R_enciphered_4 : decode cc_R_enciphered 4 = .ok (.iload 6, 2) := by decide +kernel
theorem dd_R_enciphered_6 : decode cc_R_enciphered 6 = .ok (.iload 7, 2) := by decide +kernel
theorem dd_R_enciphered_8 : decode cc_R_enciphered 8 = .ok (.invokevirtual 171, 3) := by decide +kernel
theorem dd_R_enciphered_11 : decode cc_R_enciphered 11 = .ok (.aload_n 0, 1) := by decide +kernel
theorem dd_R_enciphered_12 : decode cc_R_enciphered 12 = .ok (.getfield 31, 3) := by decide +kernel
theorem dd_R_enciphered_15 : decode cc_R_enciphered 15 = .ok (.bipush 15, 2) := by decide +kernel
theorem dd_R_enciphered_17 : decode cc_R_enciphered 17 = .ok (.iconst 1, 1) := by decide +kernel
theorem dd_R_enciphered_18 : decode cc_R_enciphered 18 = .ok (.iastore, 1) := by decide +kernel
theorem dd_R_enciphered_19 : decode cc_R_enciphered 19 = .ok (.iconst 0, 1) := by decide +kernel
theorem dd_R_enciphered_20 : decode cc_R_enciphered 20 = .ok (.istore 8, 2) := by decide +kernel
theorem dd_R_enciphered_22 : decode cc_R_enciphered 22 = .ok (.iload 8, 2) := by decide +kernel
theorem dd_R_enciphered_24 : decode cc_R_enciphered 24 = .ok (.bipush 16, 2) := by decide +kernel
theorem dd_R_enciphered_26 : decode cc_R_enciphered 26 = .ok (.if_icmp .ge 23, 3) := by decide +kernel
theorem dd_R_enciphered_29 : decode cc_R_enciphered 29 = .ok (.aload_n 0, 1) := by decide +kernel
theorem dd_R_enciphered_30 : decode cc_R_enciphered 30 = .ok (.getfield 19, 3) := by decide +kernel
theorem dd_R_enciphered_33 : decode cc_R_enciphered 33 = .ok (.iload 8, 2) := by decide +kernel
theorem dd_R_enciphered_35 : decode cc_R_enciphered 35 = .ok (.aload_n 0, 1) := by decide +kernel
theorem dd_R_enciphered_36 : decode cc_R_enciphered 36 = .ok (.getfield 31, 3) := by decide +kernel
theorem dd_R_enciphered_39 : decode cc_R_enciphered 39 = .ok (.iload 8, 2) := by decide +kernel
theorem dd_R_enciphered_41 : decode cc_R_enciphered 41 = .ok (.iaload, 1) := by decide +kernel
theorem dd_R_enciphered_42 : decode cc_R_enciphered 42 = .ok (.iastore, 1) := by decide +kernel
theorem dd_R_enciphered_43 : decode cc_R_enciphered 43 = .ok (.iinc 8 1, 3) := by decide +kernel
theorem dd_R_enciphered_46 : decode cc_R_enciphered 46 = .ok (.goto (-24), 3) := by decide +kernel
theorem dd_R_enciphered_49 : decode cc_R_enciphered 49 = .ok (.aload_n 0, 1) := by decide +kernel
theorem dd_R_enciphered_50 : decode cc_R_enciphered 50 = .ok (.iload 4, 2) := by decide +kernel
theorem dd_R_enciphered_52 : decode cc_R_enciphered 52 = .ok (.invokevirtual 149, 3) := by decide +kernel
theorem dd_R_enciphered_55 : decode cc_R_enciphered 55 = .ok (.lconst 0, 1) := by decide +kernel
theorem dd_R_enciphered_56 : decode cc_R_enciphered 56 = .ok (.lstore 8, 2) := by decide +kernel
theorem dd_R_enciphered_58 : decode cc_R_enciphered 58 = .ok (.iconst 0, 1) := by decide +kernel
theorem dd_R_enciphered_59 : decode cc_R_enciphered 59 = .ok (.istore 10, 2) := by decide +kernel
theorem dd_R_enciphered_61 : decode cc_R_enciphered 61 = .ok (.iload 10, 2) := by decide +kernel
theorem dd_R_enciphered_63 : decode cc_R_enciphered 63 = .ok (.iload_n 3, 1) := by decide +kernel
theorem dd_R_enciphered_64 : decode cc_R_enciphered 64 = .ok (.if_icmp .ge 40, 3) := by decide +kernel
theorem dd_R_enciphered_67 : decode cc_R_enciphered 67 = .ok (.lload 8, 2) := by decide +kernel
theorem dd_R_enciphered_69 : decode cc_R_enciphered 69 = .ok (.lload_n 1, 1) := by decide +kernel
theorem dd_R_enciphered_70 : decode cc_R_enciphered 70 = .ok (.bipush 8, 2) := by decide +kernel
theorem dd_R_enciphered_72 : decode cc_R_enciphered 72 = .ok (.iload 10, 2) := by decide +kernel
theorem dd_R_enciphered_74 : decode cc_R_enciphered 74 = .ok (.imul, 1) := by decide +kernel
theorem dd_R_enciphered_75 : decode cc_R_enciphered 75 = .ok (.lshr, 1) := by decide +kernel
theorem dd_R_enciphered_76 : decode cc_R_enciphered 76 = .ok (.ldc2_w 177, 3) := by decide +kernel
theorem dd_R_enciphered_79 : decode cc_R_enciphered 79 = .ok (.land, 1) := by decide +kernel
theorem dd_R_enciphered_80 : decode cc_R_enciphered 80 = .ok (.aload_n 0, 1) := by decide +kernel
theorem dd_R_enciphered_81 : decode cc_R_enciphered 81 = .ok (.getfield 19, 3) := by decide +kernel
theorem dd_R_enciphered_84 : decode cc_R_enciphered 84 = .ok (.iload 10, 2) := by decide +kernel
theorem dd_R_enciphered_86 : decode cc_R_enciphered 86 = .ok (.iaload, 1) := by decide +kernel
theorem dd_R_enciphered_87 : decode cc_R_enciphered 87 = .ok (.i2l, 1) := by decide +kernel
theorem dd_R_enciphered_88 : decode cc_R_enciphered 88 = .ok (.lxor, 1) := by decide +kernel
theorem dd_R_enciphered_89 : decode cc_R_enciphered 89 = .ok (.bipush 8, 2) := by decide +kernel
theorem dd_R_enciphered_91 : decode cc_R_enciphered 91 = .ok (.iload 10, 2) := by decide +kernel
theorem dd_R_enciphered_93 : decode cc_R_enciphered 93 = .ok (.imul, 1) := by decide +kernel
theorem dd_R_enciphered_94 : decode cc_R_enciphered 94 = .ok (.lshl, 1) := by decide +kernel
theorem dd_R_enciphered_95 : decode cc_R_enciphered 95 = .ok (.lor, 1) := by decide +kernel
theorem dd_R_enciphered_96 : decode cc_R_enciphered 96 = .ok (.lstore 8, 2) := by decide +kernel
theorem dd_R_enciphered_98 : decode cc_R_enciphered 98 = .ok (.iinc 10 1, 3) := by decide +kernel
theorem dd_R_enciphered_101 : decode cc_R_enciphered 101 = .ok (.goto (-40), 3) := by decide +kernel
theorem dd_R_enciphered_104 : decode cc_R_enciphered 104 = .ok (.lload 8, 2) := by decide +kernel
theorem dd_R_enciphered_106 : decode cc_R_enciphered 106 = .ok (.lreturn, 1) := by decide +kernel
