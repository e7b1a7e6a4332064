theorem dd_R_schedule_0 : decode cc_R_schedule 0 = .ok (.iconst 1, 1) := by decide +kernel
theorem dd_R_schedule_1 : decode cc_R_schedule 1 = .ok (.istore_n 2, 1) := by decide +kernel
theorem dd_R_schedule_2 : decode cc_R_schedule 2 = .ok (.iconst 0, 1) := by decide +kernel
theorem dd_R_schedule_3 : decode cc_R_schedule 3 = .ok (.istore_n 3, 1) := by decide +kernel
theorem dd_R_schedule_4 : decode cc_R_schedule 4 = .ok (.iload_n 3, 1) := by decide +kernel
theorem dd_R_schedule_5 : decode cc_R_schedule 5 = .ok (.bipush 16, 2) := by decide +kernel
theorem dd_R_schedule_7 : decode cc_R_schedule 7 = .ok (.if_icmp .ge 26, 3) := by decide +kernel
theorem dd_R_schedule_10 : decode cc_R_schedule 10 = .ok (.aload_n 0, 1) := by decide +kernel
theorem dd_R_schedule_11 : decode cc_R_schedule 11 = .ok (.getfield 16, 3) := by decide +kernel
theorem dd_R_schedule_14 : decode cc_R_schedule 14 = .ok (.iload_n 3, 1) := by decide +kernel
theorem dd_R_schedule_15 : decode cc_R_schedule 15 = .ok (.aload_n 0, 1) := by decide +kernel
theorem dd_R_schedule_16 : decode cc_R_schedule 16 = .ok (.getfield 28, 3) := by decide +kernel
theorem dd_R_schedule_19 : decode cc_R_schedule 19 = .ok (.bipush 16, 2) := by decide +kernel
theorem dd_R_schedule_21 : decode cc_R_schedule 21 = .ok (.iload_n 1, 1) := by decide +kernel
theorem dd_R_schedule_22 : decode cc_R_schedule 22 = .ok (.imul, 1) := by decide +kernel
theorem dd_R_schedule_23 : decode cc_R_schedule 23 = .ok (.iload_n 3, 1) := by decide +kernel
theorem dd_R_schedule_24 : decode cc_R_schedule 24 = .ok (.iadd, 1) := by decide +kernel
theorem dd_R_schedule_25 : decode cc_R_schedule 25 = .ok (.iaload, 1) := by decide +kernel
theorem dd_R_schedule_26 : decode cc_R_schedule 26 = .ok (.iastore, 1) := by decide +kernel
theorem dd_R_schedule_27 : decode cc_R_schedule 27 = .ok (.iinc 3 1, 3) := by decide +kernel
theorem dd_R_schedule_30 : decode cc_R_schedule 30 = .ok (.goto (-26), 3) := by decide +kernel
theorem dd_R_schedule_33 : decode cc_R_schedule 33 = .ok (.bipush 16, 2) := by decide +kernel
theorem dd_R_schedule_35 : decode cc_R_schedule 35 = .ok (.istore_n 3, 1) := by decide +kernel
theorem dd_R_schedule_36 : decode cc_R_schedule 36 = .ok (.iload_n 3, 1) := by decide +kernel
theorem dd_R_schedule_37 : decode cc_R_schedule 37 = .ok (.sipush 176, 3) := by decide +kernel
theorem dd_R_schedule_40 : decode cc_R_schedule 40 = .ok (.if_icmp .ge 133, 3) := by decide +kernel
theorem dd_R_schedule_43 : decode cc_R_schedule 43 = .ok (.iload_n 3, 1) := by decide +kernel
theorem dd_R_schedule_44 : decode cc_R_schedule 44 = .ok (.bipush 16, 2) := by decide +kernel
theorem dd_R_schedule_46 : decode cc_R_schedule 46 = .ok (.irem, 1) := by decide +kernel
theorem dd_R_schedule_47 : decode cc_R_schedule 47 = .ok (.ifCond .ne 7, 3) := by decide +kernel
theorem dd_R_schedule_50 : decode cc_R_schedule 50 = .ok (.iconst 1, 1) := by decide +kernel
theorem dd_R_schedule_51 : decode cc_R_schedule 51 = .ok (.goto 4, 3) := by decide +kernel
theorem dd_R_schedule_54 : decode cc_R_schedule 54 = .ok (.iconst 0, 1) := by decide +kernel
theorem dd_R_schedule_55 : decode cc_R_schedule 55 = .ok (.istore 4, 2) := by decide +kernel
theorem dd_R_schedule_57 : decode cc_R_schedule 57 = .ok (.iconst 0, 1) := by decide +kernel
theorem dd_R_schedule_58 : decode cc_R_schedule 58 = .ok (.istore 5, 2) := by decide +kernel
theorem dd_R_schedule_60 : decode cc_R_schedule 60 = .ok (.iload 5, 2) := by decide +kernel
theorem dd_R_schedule_62 : decode cc_R_schedule 62 = .ok (.iconst 4, 1) := by decide +kernel
theorem dd_R_schedule_63 : decode cc_R_schedule 63 = .ok (.if_icmp .ge 90, 3) := by decide +kernel
theorem dd_R_schedule_66 : decode cc_R_schedule 66 = .ok (.iload 4, 2) := by decide +kernel
theorem dd_R_schedule_68 : decode cc_R_schedule 68 = .ok (.ifCond .eq 26, 3) := by decide +kernel
theorem dd_R_schedule_71 : decode cc_R_schedule 71 = .ok (.aload_n 0, 1) := by decide +kernel
theorem dd_R_schedule_72 : decode cc_R_schedule 72 = .ok (.getfield 7, 3) := by decide +kernel
theorem dd_R_schedule_75 : decode cc_R_schedule 75 = .ok (.aload_n 0, 1) := by decide +kernel
theorem dd_R_schedule_76 : decode cc_R_schedule 76 = .ok (.getfield 16, 3) := by decide +kernel
theorem dd_R_schedule_79 : decode cc_R_schedule 79 = .ok (.iload_n 3, 1) := by decide +kernel
theorem dd_R_schedule_80 : decode cc_R_schedule 80 = .ok (.iconst 4, 1) := by decide +kernel
theorem dd_R_schedule_81 : decode cc_R_schedule 81 = .ok (.isub, 1) := by decide +kernel
theorem dd_R_schedule_82 : decode cc_R_schedule 82 = .ok (.iload 5, 2) := by decide +kernel
theorem dd_R_schedule_84 : decode cc_R_schedule 84 = .ok (.iconst 1, 1) := by decide +kernel
theorem dd_R_schedule_85 : decode cc_R_schedule 85 = .ok (.iadd, 1) := by decide +kernel
theorem dd_R_schedule_86 : decode cc_R_schedule 86 = .ok (.iconst 4, 1) := by decide +kernel
theorem dd_R_schedule_87 : decode cc_R_schedule 87 = .ok (.irem, 1) := by decide +kernel
theorem dd_R_schedule_88 : decode cc_R_schedule 88 = .ok (.iadd, 1) := by decide +kernel
theorem dd_R_schedule_89 : decode cc_R_schedule 89 = .ok (.iaload, 1) := by decide +kernel
theorem dd_R_schedule_90 : decode cc_R_schedule 90 = .ok (.iaload, 1) := by decide +kernel
theorem dd_R_schedule_91 : decode cc_R_schedule 91 = .ok (.goto 14, 3) := by decide +kernel
theorem dd_R_schedule_94 : decode cc_R_schedule 94 = .ok (.aload_n 0, 1) := by decide +kernel
theorem dd_R_schedule_95 : decode cc_R_schedule 95 = .ok (.getfield 16, 3) := by decide +kernel
theorem dd_R_schedule_98 : decode cc_R_schedule 98 = .ok (.iload_n 3, 1) := by decide +kernel
theorem dd_R_schedule_99 : decode cc_R_schedule 99 = .ok (.iconst 4, 1) := by decide +kernel
theorem dd_R_schedule_100 : decode cc_R_schedule 100 = .ok (.isub, 1) := by decide +kernel
theorem dd_R_schedule_101 : decode cc_R_schedule 101 = .ok (.iload 5, 2) := by decide +kernel
theorem dd_R_schedule_103 : decode cc_R_schedule 103 = .ok (.iadd, 1) := by decide +kernel
theorem dd_R_schedule_104 : decode cc_R_schedule 104 = .ok (.iaload, 1) := by decide +kernel
theorem dd_R_schedule_105 : decode cc_R_schedule 105 = .ok (.istore 6, 2) := by decide +kernel
theorem dd_R_schedule_107 : decode cc_R_schedule 107 = .ok (.aload_n 0, 1) := by decide +kernel
theorem dd_R_schedule_108 : decode cc_R_schedule 108 = .ok (.getfield 16, 3) := by decide +kernel
theorem dd_R_schedule_111 : decode cc_R_schedule 111 = .ok (.iload_n 3, 1) := by decide +kernel
theorem dd_R_schedule_112 : decode cc_R_schedule 112 = .ok (.iload 5, 2) := by decide +kernel
theorem dd_R_schedule_114 : decode cc_R_schedule 114 = .ok (.iadd, 1) := by decide +kernel
theorem dd_R_schedule_115 : decode cc_R_schedule 115 = .ok (.aload_n 0, 1) := by decide +kernel
theorem dd_R_schedule_116 : decode cc_R_schedule 116 = .ok (.getfield 16, 3) := by decide +kernel
theorem dd_R_schedule_119 : decode cc_R_schedule 119 = .ok (.iload_n 3, 1) := by decide +kernel
theorem dd_R_schedule_120 : decode cc_R_schedule 120 = .ok (.bipush 16, 2) := by decide +kernel
theorem dd_R_schedule_122 : decode cc_R_schedule 122 = .ok (.isub, 1) := by decide +kernel
theorem dd_R_schedule_123 : decode cc_R_schedule 123 = .ok (.iload 5, 2) := by decide +kernel
theorem dd_R_schedule_125 : decode cc_R_schedule 125 = .ok (.iadd, 1) := by decide +kernel
theorem dd_R_schedule_126 : decode cc_R_schedule 126 = .ok (.iaload, 1) := by decide +kernel
theorem dd_R_schedule_127 : decode cc_R_schedule 127 = .ok (.iload 6, 2) := by decide +kernel
theorem dd_R_schedule_129 : decode cc_R_schedule 129 = .ok (.ixor, 1) := by decide +kernel
theorem dd_R_schedule_130 : decode cc_R_schedule 130 = .ok (.iload 4, 2) := by decide +kernel
theorem dd_R_schedule_132 : decode cc_R_schedule 132 = .ok (.ifCond .eq 12, 3) := by decide +kernel
theorem dd_R_schedule_135 : decode cc_R_schedule 135 = .ok (.iload 5, 2) := by decide +kernel
theorem dd_R_schedule_137 : decode cc_R_schedule 137 = .ok (.ifCond .ne 7, 3) := by decide +kernel
theorem dd_R_schedule_140 : decode cc_R_schedule 140 = .ok (.iload_n 2, 1) := by decide +kernel
theorem dd_R_schedule_141 : decode cc_R_schedule 141 = .ok (.goto 4, 3) := by decide +kernel
theorem dd_R_schedule_144 : decode cc_R_schedule 144 = .ok (.iconst 0, 1) := by decide +kernel
theorem dd_R_schedule_145 : decode cc_R_schedule 145 = .ok (.ixor, 1) := by decide +kernel
theorem dd_R_schedule_146 : decode cc_R_schedule 146 = .ok (.iastore, 1) := by decide +kernel
theorem dd_R_schedule_147 : decode cc_R_schedule 147 = .ok (.iinc 5 1, 3) := by decide +kernel
theorem dd_R_schedule_150 : decode cc_R_schedule 150 = .ok (.goto (-90), 3) := by decide +kernel
theorem dd_R_schedule_153 : decode cc_R_schedule 153 = .ok (.iload 4, 2) := by decide +kernel
theorem dd_R_schedule_155 : decode cc_R_schedule 155 = .ok (.ifCond .eq 10, 3) := by decide +kernel
theorem dd_R_schedule_158 : decode cc_R_schedule 158 = .ok (.iload_n 2, 1) := by decide +kernel
theorem dd_R_schedule_159 : decode cc_R_schedule 159 = .ok (.invokestatic 123, 3) := by decide +kernel
theorem dd_R_schedule_162 : decode cc_R_schedule 162 = .ok (.goto 4, 3) := by decide +kernel
theorem dd_R_schedule_165 : decode cc_R_schedule 165 = .ok (.iload_n 2, 1) := by decide +kernel
theorem dd_R_schedule_166 : decode cc_R_schedule 166 = .ok (.istore_n 2, 1) := by decide +kernel
theorem dd_R_schedule_167 : decode cc_R_schedule 167 = .ok (.iinc 3 4, 3) := by decide +kernel
theorem dd_R_schedule_170 : decode cc_R_schedule 170 = .ok (.goto (-134), 3) := by decide +kernel
theorem dd_R_schedule_173 : decode cc_R_schedule 173 = .ok (.return_, 1) := by decide +kernel
theorem dd_R_addKey_0 : decode cc_R_addKey 0 = .ok (.iconst 0, 1) := by decide +kernel
theorem dd_R_addKey_1 : decode cc_R_addKey 1 = .ok (.istore_n 2, 1) := by decide +kernel
theorem dd_R_addKey_2 : decode cc_R_addKey 2 = .ok (.iload_n 2, 1) := by decide +kernel
theorem dd_R_addKey_3 : decode cc_R_addKey 3 = .ok (.bipush 16, 2) := by decide +kernel
theorem dd_R_addKey_5 : decode cc_R_addKey 5 = .ok (.if_icmp .ge 33, 3) := by decide +kernel
theorem dd_R_addKey_8 : decode cc_R_addKey 8 = .ok (.aload_n 0, 1) := by decide +kernel
theorem dd_R_addKey_9 : decode cc_R_addKey 9 = .ok (.getfield 19, 3) := by decide +kernel
theorem dd_R_addKey_12 : decode cc_R_addKey 12 = .ok (.iload_n 2, 1) := by decide +kernel
theorem dd_R_addKey_13 : decode cc_R_addKey 13 = .ok (.aload_n 0, 1) := by decide +kernel
theorem dd_R_addKey_14 : decode cc_R_addKey 14 = .ok (.getfield 19, 3) := by decide +kernel
theorem dd_R_addKey_17 : decode cc_R_addKey 17 = .ok (.iload_n 2, 1) := by decide +kernel
theorem dd_R_addKey_18 : decode cc_R_addKey 18 = .ok (.iaload, 1) := by decide +kernel
theorem dd_R_addKey_19 : decode cc_R_addKey 19 = .ok (.aload_n 0, 1) := by decide +kernel
theorem dd_R_addKey_20 : decode cc_R_addKey 20 = .ok (.getfield 16, 3) := by decide +kernel
theorem dd_R_addKey_23 : decode cc_R_addKey 23 = .ok (.bipush 16, 2) := by decide +kernel
theorem dd_R_addKey_25 : decode cc_R_addKey 25 = .ok (.iload_n 1, 1) := by decide +kernel
theorem dd_R_addKey_26 : decode cc_R_addKey 26 = .ok (.imul, 1) := by decide +kernel
theorem dd_R_addKey_27 : decode cc_R_addKey 27 = .ok (.iload_n 2, 1) := by decide +kernel
theorem dd_R_addKey_28 : decode cc_R_addKey 28 = .ok (.iadd, 1) := by decide +kernel
theorem dd_R_addKey_29 : decode cc_R_addKey 29 = .ok (.iaload, 1) := by decide +kernel
theorem dd_R_addKey_30 : decode cc_R_addKey 30 = .ok (.ixor, 1) := by decide +kernel
theorem dd_R_addKey_31 : decode cc_R_addKey 31 = .ok (.iastore, 1) := by decide +kernel
theorem dd_R_addKey_32 : decode cc_R_addKey 32 = .ok (.iinc 2 1, 3) := by decide +kernel
theorem dd_R_addKey_35 : decode cc_R_addKey 35 = .ok (.goto (-33), 3) := by decide +kernel
theorem dd_R_addKey_38 : decode cc_R_addKey 38 = .ok (.return_, 1) := by decide +kernel
theorem dd_R_copyBlock_0 : decode cc_R_copyBlock 0 = .ok (.iconst 0, 1) := by decide +kernel
theorem dd_R_copyBlock_1 : decode cc_R_copyBlock 1 = .ok (.istore_n 1, 1) := by decide +kernel
theorem dd_R_copyBlock_2 : decode cc_R_copyBlock 2 = .ok (.iload_n 1, 1) := by decide +kernel
theorem dd_R_copyBlock_3 : decode cc_R_copyBlock 3 = .ok (.bipush 16, 2) := by decide +kernel
theorem dd_R_copyBlock_5 : decode cc_R_copyBlock 5 = .ok (.if_icmp .ge 21, 3) := by decide +kernel
theorem dd_R_copyBlock_8 : decode cc_R_copyBlock 8 = .ok (.aload_n 0, 1) := by decide +kernel
theorem dd_R_copyBlock_9 : decode cc_R_copyBlock 9 = .ok (.getfield 22, 3) := by decide +kernel
theorem dd_R_copyBlock_12 : decode cc_R_copyBlock 12 = .ok (.iload_n 1, 1) := by decide +kernel
theorem dd_R_copyBlock_13 : decode cc_R_copyBlock 13 = .ok (.aload_n 0, 1) := by decide +kernel
theorem dd_R_copyBlock_14 : decode cc_R_copyBlock 14 = .ok (.getfield 19, 3) := by decide +kernel
theorem dd_R_copyBlock_17 : decode cc_R_copyBlock 17 = .ok (.iload_n 1, 1) := by decide +kernel
theorem dd_R_copyBlock_18 : decode cc_R_copyBlock 18 = .ok (.iaload, 1) := by decide +kernel
theorem dd_R_copyBlock_19 : decode cc_R_copyBlock 19 = .ok (.iastore, 1) := by decide +kernel
theorem dd_R_copyBlock_20 : decode cc_R_copyBlock 20 = .ok (.iinc 1 1, 3) := by decide +kernel
theorem dd_R_copyBlock_23 : decode cc_R_copyBlock 23 = .ok (.goto (-21), 3) := by decide +kernel
theorem dd_R_copyBlock_26 : decode cc_R_copyBlock 26 = .ok (.return_, 1) := by decide +kernel
theorem dd_R_mix_0 : decode cc_R_mix 0 = .ok (.aload_n 0, 1) := by decide +kernel
theorem dd_R_mix_1 : decode cc_R_mix 1 = .ok (.invokevirtual 135, 3) := by decide +kernel
theorem dd_R_mix_4 : decode cc_R_mix 4 = .ok (.iconst 0, 1) := by decide +kernel
theorem dd_R_mix_5 : decode cc_R_mix 5 = .ok (.istore 5, 2) := by decide +kernel
theorem dd_R_mix_7 : decode cc_R_mix 7 = .ok (.iload 5, 2) := by decide +kernel
theorem dd_R_mix_9 : decode cc_R_mix 9 = .ok (.bipush 16, 2) := by decide +kernel
theorem dd_R_mix_11 : decode cc_R_mix 11 = .ok (.if_icmp .ge 93, 3) := by decide +kernel
theorem dd_R_mix_14 : decode cc_R_mix 14 = .ok (.iload 5, 2) := by decide +kernel
theorem dd_R_mix_16 : decode cc_R_mix 16 = .ok (.iconst 4, 1) := by decide +kernel
theorem dd_R_mix_17 : decode cc_R_mix 17 = .ok (.idiv, 1) := by decide +kernel
theorem dd_R_mix_18 : decode cc_R_mix 18 = .ok (.iconst 4, 1) := by decide +kernel
theorem dd_R_mix_19 : decode cc_R_mix 19 = .ok (.imul, 1) := by decide +kernel
theorem dd_R_mix_20 : decode cc_R_mix 20 = .ok (.istore 6, 2) := by decide +kernel
theorem dd_R_mix_22 : decode cc_R_mix 22 = .ok (.aload_n 0, 1) := by decide +kernel
theorem dd_R_mix_23 : decode cc_R_mix 23 = .ok (.getfield 19, 3) := by decide +kernel
theorem dd_R_mix_26 : decode cc_R_mix 26 = .ok (.iload 5, 2) := by decide +kernel
theorem dd_R_mix_28 : decode cc_R_mix 28 = .ok (.aload_n 0, 1) := by decide +kernel
theorem dd_R_mix_29 : decode cc_R_mix 29 = .ok (.getfield 22, 3) := by decide +kernel
theorem dd_R_mix_32 : decode cc_R_mix 32 = .ok (.iload 5, 2) := by decide +kernel
theorem dd_R_mix_34 : decode cc_R_mix 34 = .ok (.iaload, 1) := by decide +kernel
theorem dd_R_mix_35 : decode cc_R_mix 35 = .ok (.iload_n 1, 1) := by decide +kernel
theorem dd_R_mix_36 : decode cc_R_mix 36 = .ok (.invokestatic 127, 3) := by decide +kernel
theorem dd_R_mix_39 : decode cc_R_mix 39 = .ok (.aload_n 0, 1) := by decide +kernel
theorem dd_R_mix_40 : decode cc_R_mix 40 = .ok (.getfield 22, 3) := by decide +kernel
theorem dd_R_mix_43 : decode cc_R_mix 43 = .ok (.iload 6, 2) := by decide +kernel
theorem dd_R_mix_45 : decode cc_R_mix 45 = .ok (.iload 5, 2) := by decide +kernel
theorem dd_R_mix_47 : decode cc_R_mix 47 = .ok (.iconst 1, 1) := by decide +kernel
theorem dd_R_mix_48 : decode cc_R_mix 48 = .ok (.iadd, 1) := by decide +kernel
theorem dd_R_mix_49 : decode cc_R_mix 49 = .ok (.iconst 4, 1) := by decide +kernel
theorem dd_R_mix_50 : decode cc_R_mix 50 = .ok (.irem, 1) := by decide +kernel
theorem dd_R_mix_51 : decode cc_R_mix 51 = .ok (.iadd, 1) := by decide +kernel
theorem dd_R_mix_52 : decode cc_R_mix 52 = .ok (.iaload, 1) := by decide +kernel
theorem dd_R_mix_53 : decode cc_R_mix 53 = .ok (.iload_n 2, 1) := by decide +kernel
theorem dd_R_mix_54 : decode cc_R_mix 54 = .ok (.invokestatic 127, 3) := by decide +kernel
theorem dd_R_mix_57 : decode cc_R_mix 57 = .ok (.ixor, 1) := by decide +kernel
theorem dd_R_mix_58 : decode cc_R_mix 58 = .ok (.aload_n 0, 1) := by decide +kernel
theorem dd_R_mix_59 : decode cc_R_mix 59 = .ok (.getfield 22, 3) := by decide +kernel
theorem dd_R_mix_62 : decode cc_R_mix 62 = .ok (.iload 6, 2) := by decide +kernel
theorem dd_R_mix_64 : decode cc_R_mix 64 = .ok (.iload 5, 2) := by decide +kernel
theorem dd_R_mix_66 : decode cc_R_mix 66 = .ok (.iconst 2, 1) := by decide +kernel
theorem dd_R_mix_67 : decode cc_R_mix 67 = .ok (.iadd, 1) := by decide +kernel
theorem dd_R_mix_68 : decode cc_R_mix 68 = .ok (.iconst 4, 1) := by decide +kernel
theorem dd_R_mix_69 : decode cc_R_mix 69 = .ok (.irem, 1) := by decide +kernel
theorem dd_R_mix_70 : decode cc_R_mix 70 = .ok (.iadd, 1) := by decide +kernel
theorem dd_R_mix_71 : decode cc_R_mix 71 = .ok (.iaload, 1) := by decide +kernel
theorem dd_R_mix_72 : decode cc_R_mix 72 = .ok (.iload_n 3, 1) := by decide +kernel
theorem dd_R_mix_73 : decode cc_R_mix 73 = .ok (.invokestatic 127, 3) := by decide +kernel
theorem dd_R_mix_76 : decode cc_R_mix 76 = .ok (.ixor, 1) := by decide +kernel
theorem dd_R_mix_77 : decode cc_R_mix 77 = .ok (.aload_n 0, 1) := by decide +kernel
theorem dd_R_mix_78 : decode cc_R_mix 78 = .ok (.getfield 22, 3) := by decide +kernel
theorem dd_R_mix_81 : decode cc_R_mix 81 = .ok (.iload 6, 2) := by decide +kernel
theorem dd_R_mix_83 : decode cc_R_mix 83 = .ok (.iload 5, 2) := by decide +kernel
theorem dd_R_mix_85 : decode cc_R_mix 85 = .ok (.iconst 3, 1) := by decide +kernel
theorem dd_R_mix_86 : decode cc_R_mix 86 = .ok (.iadd, 1) := by decide +kernel
theorem dd_R_mix_87 : decode cc_R_mix 87 = .ok (.iconst 4, 1) := by decide +kernel
theorem dd_R_mix_88 : decode cc_R_mix 88 = .ok (.irem, 1) := by decide +kernel
theorem dd_R_mix_89 : decode cc_R_mix 89 = .ok (.iadd, 1) := by decide +kernel
theorem dd_R_mix_90 : decode cc_R_mix 90 = .ok (.iaload, 1) := by decide +kernel
theorem dd_R_mix_91 : decode cc_R_mix 91 = .ok (.iload 4, 2) := by decide +kernel
theorem dd_R_mix_93 : decode cc_R_mix 93 = .ok (.invokestatic 127, 3) := by decide +kernel
theorem dd_R_mix_96 : decode cc_R_mix 96 = .ok (.ixor, 1) := by decide +kernel
theorem dd_R_mix_97 : decode cc_R_mix 97 = .ok (.iastore, 1) := by decide +kernel
theorem dd_R_mix_98 : decode cc_R_mix 98 = .ok (.iinc 5 1, 3) := by decide +kernel
theorem dd_R_mix_101 : decode cc_R_mix 101 = .ok (.goto (-94), 3) := by decide +kernel
theorem dd_R_mix_104 : decode cc_R_mix 104 = .ok (.return_, 1) := by decide +kernel
theorem dd_R_cipher_0 : decode cc_R_cipher 0 = .ok (.aload_n 0, 1) := by decide +kernel
theorem dd_R_cipher_1 : decode cc_R_cipher 1 = .ok (.iload_n 1, 1) := by decide +kernel
theorem dd_R_cipher_2 : decode cc_R_cipher 2 = .ok (.invokevirtual 138, 3) := by decide +kernel
theorem dd_R_cipher_5 : decode cc_R_cipher 5 = .ok (.aload_n 0, 1) := by decide +kernel
theorem dd_R_cipher_6 : decode cc_R_cipher 6 = .ok (.iconst 0, 1) := by decide +kernel
theorem dd_R_cipher_7 : decode cc_R_cipher 7 = .ok (.invokevirtual 142, 3) := by decide +kernel
theorem dd_R_cipher_10 : decode cc_R_cipher 10 = .ok (.iconst 1, 1) := by decide +kernel
theorem dd_R_cipher_11 : decode cc_R_cipher 11 = .ok (.istore_n 2, 1) := by decide +kernel
theorem dd_R_cipher_12 : decode cc_R_cipher 12 = .ok (.iload_n 2, 1) := by decide +kernel
theorem dd_R_cipher_13 : decode cc_R_cipher 13 = .ok (.bipush 10, 2) := by decide +kernel
theorem dd_R_cipher_15 : decode cc_R_cipher 15 = .ok (.if_icmp .gt 72, 3) := by decide +kernel
theorem dd_R_cipher_18 : decode cc_R_cipher 18 = .ok (.aload_n 0, 1) := by decide +kernel
theorem dd_R_cipher_19 : decode cc_R_cipher 19 = .ok (.invokevirtual 135, 3) := by decide +kernel
theorem dd_R_cipher_22 : decode cc_R_cipher 22 = .ok (.iconst 0, 1) := by decide +kernel
theorem dd_R_cipher_23 : decode cc_R_cipher 23 = .ok (.istore_n 3, 1) := by decide +kernel
theorem dd_R_cipher_24 : decode cc_R_cipher 24 = .ok (.iload_n 3, 1) := by decide +kernel
theorem dd_R_cipher_25 : decode cc_R_cipher 25 = .ok (.bipush 16, 2) := by decide +kernel
theorem dd_R_cipher_27 : decode cc_R_cipher 27 = .ok (.if_icmp .ge 35, 3) := by decide +kernel
theorem dd_R_cipher_30 : decode cc_R_cipher 30 = .ok (.aload_n 0, 1) := by decide +kernel
theorem dd_R_cipher_31 : decode cc_R_cipher 31 = .ok (.getfield 19, 3) := by decide +kernel
theorem dd_R_cipher_34 : decode cc_R_cipher 34 = .ok (.iload_n 3, 1) := by decide +kernel
theorem dd_R_cipher_35 : decode cc_R_cipher 35 = .ok (.aload_n 0, 1) := by decide +kernel
theorem dd_R_cipher_36 : decode cc_R_cipher 36 = .ok (.getfield 7, 3) := by decide +kernel
theorem dd_R_cipher_39 : decode cc_R_cipher 39 = .ok (.aload_n 0, 1) := by decide +kernel
theorem dd_R_cipher_40 : decode cc_R_cipher 40 = .ok (.getfield 22, 3) := by decide +kernel
theorem dd_R_cipher_43 : decode cc_R_cipher 43 = .ok (.iload_n 3, 1) := by decide +kernel
theorem dd_R_cipher_44 : decode cc_R_cipher 44 = .ok (.iconst 4, 1) := by decide +kernel
theorem dd_R_cipher_45 : decode cc_R_cipher 45 = .ok (.iload_n 3, 1) := by decide +kernel
theorem dd_R_cipher_46 : decode cc_R_cipher 46 = .ok (.iconst 4, 1) := by decide +kernel
theorem dd_R_cipher_47 : decode cc_R_cipher 47 = .ok (.irem, 1) := by decide +kernel
theorem dd_R_cipher_48 : decode cc_R_cipher 48 = .ok (.imul, 1) := by decide +kernel
theorem dd_R_cipher_49 : decode cc_R_cipher 49 = .ok (.iadd, 1) := by decide +kernel
theorem dd_R_cipher_50 : decode cc_R_cipher 50 = .ok (.bipush 16, 2) := by decide +kernel
theorem dd_R_cipher_52 : decode cc_R_cipher 52 = .ok (.irem, 1) := by decide +kernel
theorem dd_R_cipher_53 : decode cc_R_cipher 53 = .ok (.iaload, 1) := by decide +kernel
theorem dd_R_cipher_54 : decode cc_R_cipher 54 = .ok (.iaload, 1) := by decide +kernel
theorem dd_R_cipher_55 : decode cc_R_cipher 55 = .ok (.iastore, 1) := by decide +kernel
theorem dd_R_cipher_56 : decode cc_R_cipher 56 = .ok (.iinc 3 1, 3) := by decide +kernel
theorem dd_R_cipher_59 : decode cc_R_cipher 59 = .ok (.goto (-35), 3) := by decide +kernel
theorem dd_R_cipher_62 : decode cc_R_cipher 62 = .ok (.iload_n 2, 1) := by decide +kernel
theorem dd_R_cipher_63 : decode cc_R_cipher 63 = .ok (.bipush 10, 2) := by decide +kernel
theorem dd_R_cipher_65 : decode cc_R_cipher 65 = .ok (.if_icmp .ge 11, 3) := by decide +kernel
theorem dd_R_cipher_68 : decode cc_R_cipher 68 = .ok (.aload_n 0, 1) := by decide +kernel
theorem dd_R_cipher_69 : decode cc_R_cipher 69 = .ok (.iconst 2, 1) := by decide +kernel
theorem dd_R_cipher_70 : decode cc_R_cipher 70 = .ok (.iconst 3, 1) := by decide +kernel
theorem dd_R_cipher_71 : decode cc_R_cipher 71 = .ok (.iconst 1, 1) := by decide +kernel
theorem dd_R_cipher_72 : decode cc_R_cipher 72 = .ok (.iconst 1, 1) := by decide +kernel
theorem dd_R_cipher_73 : decode cc_R_cipher 73 = .ok (.invokevirtual 145, 3) := by decide +kernel
theorem dd_R_cipher_76 : decode cc_R_cipher 76 = .ok (.aload_n 0, 1) := by decide +kernel
theorem dd_R_cipher_77 : decode cc_R_cipher 77 = .ok (.iload_n 2, 1) := by decide +kernel
theorem dd_R_cipher_78 : decode cc_R_cipher 78 = .ok (.invokevirtual 142, 3) := by decide +kernel
theorem dd_R_cipher_81 : decode cc_R_cipher 81 = .ok (.iinc 2 1, 3) := by decide +kernel
theorem dd_R_cipher_84 : decode cc_R_cipher 84 = .ok (.goto (-72), 3) := by decide +kernel
theorem dd_R_cipher_87 : decode cc_R_cipher 87 = .ok (.return_, 1) := by decide +kernel
theorem dd_R_decipher_0 : decode cc_R_decipher 0 = .ok (.aload_n 0, 1) := by decide +kernel
theorem dd_R_decipher_1 : decode cc_R_decipher 1 = .ok (.iload_n 1, 1) := by decide +kernel
theorem dd_R_decipher_2 : decode cc_R_decipher 2 = .ok (.invokevirtual 138, 3) := by decide +kernel
theorem dd_R_decipher_5 : decode cc_R_decipher 5 = .ok (.bipush 10, 2) := by decide +kernel
theorem dd_R_decipher_7 : decode cc_R_decipher 7 = .ok (.istore_n 2, 1) := by decide +kernel
theorem dd_R_decipher_8 : decode cc_R_decipher 8 = .ok (.iload_n 2, 1) := by decide +kernel
theorem dd_R_decipher_9 : decode cc_R_decipher 9 = .ok (.iconst 1, 1) := by decide +kernel
theorem dd_R_decipher_10 : decode cc_R_decipher 10 = .ok (.if_icmp .lt 79, 3) := by decide +kernel
theorem dd_R_decipher_13 : decode cc_R_decipher 13 = .ok (.aload_n 0, 1) := by decide +kernel
theorem dd_R_decipher_14 : decode cc_R_decipher 14 = .ok (.iload_n 2, 1) := by decide +kernel
theorem dd_R_decipher_15 : decode cc_R_decipher 15 = .ok (.invokevirtual 142, 3) := by decide +kernel
theorem dd_R_decipher_18 : decode cc_R_decipher 18 = .ok (.iload_n 2, 1) := by decide +kernel
theorem dd_R_decipher_19 : decode cc_R_decipher 19 = .ok (.bipush 10, 2) := by decide +kernel
theorem dd_R_decipher_21 : decode cc_R_decipher 21 = .ok (.if_icmp .ge 15, 3) := by decide +kernel
theorem dd_R_decipher_24 : decode cc_R_decipher 24 = .ok (.aload_n 0, 1) := by decide +kernel
theorem dd_R_decipher_25 : decode cc_R_decipher 25 = .ok (.bipush 14, 2) := by decide +kernel
theorem dd_R_decipher_27 : decode cc_R_decipher 27 = .ok (.bipush 11, 2) := by decide +kernel
theorem dd_R_decipher_29 : decode cc_R_decipher 29 = .ok (.bipush 13, 2) := by decide +kernel
theorem dd_R_decipher_31 : decode cc_R_decipher 31 = .ok (.bipush 9, 2) := by decide +kernel
theorem dd_R_decipher_33 : decode cc_R_decipher 33 = .ok (.invokevirtual 145, 3) := by decide +kernel
theorem dd_R_decipher_36 : decode cc_R_decipher 36 = .ok (.aload_n 0, 1) := by decide +kernel
theorem dd_R_decipher_37 : decode cc_R_decipher 37 = .ok (.invokevirtual 135, 3) := by decide +kernel
theorem dd_R_decipher_40 : decode cc_R_decipher 40 = .ok (.iconst 0, 1) := by decide +kernel
theorem dd_R_decipher_41 : decode cc_R_decipher 41 = .ok (.istore_n 3, 1) := by decide +kernel
theorem dd_R_decipher_42 : decode cc_R_decipher 42 = .ok (.iload_n 3, 1) := by decide +kernel
theorem dd_R_decipher_43 : decode cc_R_decipher 43 = .ok (.bipush 16, 2) := by decide +kernel
theorem dd_R_decipher_45 : decode cc_R_decipher 45 = .ok (.if_icmp .ge 38, 3) := by decide +kernel
theorem dd_R_decipher_48 : decode cc_R_decipher 48 = .ok (.aload_n 0, 1) := by decide +kernel
theorem dd_R_decipher_49 : decode cc_R_decipher 49 = .ok (.getfield 19, 3) := by decide +kernel
theorem dd_R_decipher_52 : decode cc_R_decipher 52 = .ok (.iload_n 3, 1) := by decide +kernel
theorem dd_R_decipher_53 : decode cc_R_decipher 53 = .ok (.aload_n 0, 1) := by decide +kernel
theorem dd_R_decipher_54 : decode cc_R_decipher 54 = .ok (.getfield 13, 3) := by decide +kernel
theorem dd_R_decipher_57 : decode cc_R_decipher 57 = .ok (.aload_n 0, 1) := by decide +kernel
theorem dd_R_decipher_58 : decode cc_R_decipher 58 = .ok (.getfield 22, 3) := by decide +kernel
theorem dd_R_decipher_61 : decode cc_R_decipher 61 = .ok (.iload_n 3, 1) := by decide +kernel
theorem dd_R_decipher_62 : decode cc_R_decipher 62 = .ok (.bipush 16, 2) := by decide +kernel
theorem dd_R_decipher_64 : decode cc_R_decipher 64 = .ok (.iadd, 1) := by decide +kernel
theorem dd_R_decipher_65 : decode cc_R_decipher 65 = .ok (.iconst 4, 1) := by decide +kernel
theorem dd_R_decipher_66 : decode cc_R_decipher 66 = .ok (.iload_n 3, 1) := by decide +kernel
theorem dd_R_decipher_67 : decode cc_R_decipher 67 = .ok (.iconst 4, 1) := by decide +kernel
theorem dd_R_decipher_68 : decode cc_R_decipher 68 = .ok (.irem, 1) := by decide +kernel
theorem dd_R_decipher_69 : decode cc_R_decipher 69 = .ok (.imul, 1) := by decide +kernel
theorem dd_R_decipher_70 : decode cc_R_decipher 70 = .ok (.isub, 1) := by decide +kernel
theorem dd_R_decipher_71 : decode cc_R_decipher 71 = .ok (.bipush 16, 2) := by decide +kernel
theorem dd_R_decipher_73 : decode cc_R_decipher 73 = .ok (.irem, 1) := by decide +kernel
theorem dd_R_decipher_74 : decode cc_R_decipher 74 = .ok (.iaload, 1) := by decide +kernel
theorem dd_R_decipher_75 : decode cc_R_decipher 75 = .ok (.iaload, 1) := by decide +kernel
theorem dd_R_decipher_76 : decode cc_R_decipher 76 = .ok (.iastore, 1) := by decide +kernel
theorem dd_R_decipher_77 : decode cc_R_decipher 77 = .ok (.iinc 3 1, 3) := by decide +kernel
theorem dd_R_decipher_80 : decode cc_R_decipher 80 = .ok (.goto (-38), 3) := by decide +kernel
theorem dd_R_decipher_83 : decode cc_R_decipher 83 = .ok (.iinc 2 (-1), 3) := by decide +kernel
theorem dd_R_decipher_86 : decode cc_R_decipher 86 = .ok (.goto (-78), 3) := by decide +kernel
theorem dd_R_decipher_89 : decode cc_R_decipher 89 = .ok (.aload_n 0, 1) := by decide +kernel
theorem dd_R_decipher_90 : decode cc_R_decipher 90 = .ok (.iconst 0, 1) := by decide +kernel
theorem dd_R_decipher_91 : decode cc_R_decipher 91 = .ok (.invokevirtual 142, 3) := by decide +kernel
theorem dd_R_decipher_94 : decode cc_R_decipher 94 = .ok (.return_, 1) := by decide +kernel
theorem dd_R_doubled_0 : decode cc_R_doubled 0 = .ok (.aload_n 0, 1) := by decide +kernel
theorem dd_R_doubled_1 : decode cc_R_doubled 1 = .ok (.getfield 25, 3) := by decide +kernel
theorem dd_R_doubled_4 : decode cc_R_doubled 4 = .ok (.iconst 0, 1) := by decide +kernel
theorem dd_R_doubled_5 : decode cc_R_doubled 5 = .ok (.iaload, 1) := by decide +kernel
theorem dd_R_doubled_6 : decode cc_R_doubled 6 = .ok (.bipush 127, 2) := by decide +kernel
theorem dd_R_doubled_8 : decode cc_R_doubled 8 = .ok (.if_icmp .le 7, 3) := by decide +kernel
theorem dd_R_doubled_11 : decode cc_R_doubled 11 = .ok (.iconst 1, 1) := by decide +kernel
theorem dd_R_doubled_12 : decode cc_R_doubled 12 = .ok (.goto 4, 3) := by decide +kernel
theorem dd_R_doubled_15 : decode cc_R_doubled 15 = .ok (.iconst 0, 1) := by decide +kernel
theorem dd_R_doubled_16 : decode cc_R_doubled 16 = .ok (.istore_n 1, 1) := by decide +kernel
theorem dd_R_doubled_17 : decode cc_R_doubled 17 = .ok (.iconst 0, 1) := by decide +kernel
theorem dd_R_doubled_18 : decode cc_R_doubled 18 = .ok (.istore_n 2, 1) := by decide +kernel
theorem dd_R_doubled_19 : decode cc_R_doubled 19 = .ok (.iload_n 2, 1) := by decide +kernel
theorem dd_R_doubled_20 : decode cc_R_doubled 20 = .ok (.bipush 16, 2) := by decide +kernel
theorem dd_R_doubled_22 : decode cc_R_doubled 22 = .ok (.if_icmp .ge 49, 3) := by decide +kernel
theorem dd_R_doubled_25 : decode cc_R_doubled 25 = .ok (.aload_n 0, 1) := by decide +kernel
theorem dd_R_doubled_26 : decode cc_R_doubled 26 = .ok (.getfield 25, 3) := by decide +kernel
theorem dd_R_doubled_29 : decode cc_R_doubled 29 = .ok (.iload_n 2, 1) := by decide +kernel
theorem dd_R_doubled_30 : decode cc_R_doubled 30 = .ok (.iconst 2, 1) := by decide +kernel
theorem dd_R_doubled_31 : decode cc_R_doubled 31 = .ok (.aload_n 0, 1) := by decide +kernel
theorem dd_R_doubled_32 : decode cc_R_doubled 32 = .ok (.getfield 25, 3) := by decide +kernel
theorem dd_R_doubled_35 : decode cc_R_doubled 35 = .ok (.iload_n 2, 1) := by decide +kernel
theorem dd_R_doubled_36 : decode cc_R_doubled 36 = .ok (.iaload, 1) := by decide +kernel
theorem dd_R_doubled_37 : decode cc_R_doubled 37 = .ok (.imul, 1) := by decide +kernel
theorem dd_R_doubled_38 : decode cc_R_doubled 38 = .ok (.sipush 255, 3) := by decide +kernel
theorem dd_R_doubled_41 : decode cc_R_doubled 41 = .ok (.iand, 1) := by decide +kernel
theorem dd_R_doubled_42 : decode cc_R_doubled 42 = .ok (.iload_n 2, 1) := by decide +kernel
theorem dd_R_doubled_43 : decode cc_R_doubled 43 = .ok (.bipush 15, 2) := by decide +kernel
theorem dd_R_doubled_45 : decode cc_R_doubled 45 = .ok (.if_icmp .ge 17, 3) := by decide +kernel
theorem dd_R_doubled_48 : decode cc_R_doubled 48 = .ok (.aload_n 0, 1) := by decide +kernel
theorem dd_R_doubled_49 : decode cc_R_doubled 49 = .ok (.getfield 25, 3) := by decide +kernel
theorem dd_R_doubled_52 : decode cc_R_doubled 52 = .ok (.iload_n 2, 1) := by decide +kernel
theorem dd_R_doubled_53 : decode cc_R_doubled 53 = .ok (.iconst 1, 1) := by decide +kernel
theorem dd_R_doubled_54 : decode cc_R_doubled 54 = .ok (.iadd, 1) := by decide +kernel
theorem dd_R_doubled_55 : decode cc_R_doubled 55 = .ok (.iaload, 1) := by decide +kernel
theorem dd_R_doubled_56 : decode cc_R_doubled 56 = .ok (.bipush 7, 2) := by decide +kernel
theorem dd_R_doubled_58 : decode cc_R_doubled 58 = .ok (.ishr, 1) := by decide +kernel
theorem dd_R_doubled_59 : decode cc_R_doubled 59 = .ok (.goto 4, 3) := by decide +kernel
theorem dd_R_doubled_62 : decode cc_R_doubled 62 = .ok (.iconst 0, 1) := by decide +kernel
theorem dd_R_doubled_63 : decode cc_R_doubled 63 = .ok (.ior, 1) := by decide +kernel
theorem dd_R_doubled_64 : decode cc_R_doubled 64 = .ok (.iastore, 1) := by decide +kernel
theorem dd_R_doubled_65 : decode cc_R_doubled 65 = .ok (.iinc 2 1, 3) := by decide +kernel
theorem dd_R_doubled_68 : decode cc_R_doubled 68 = .ok (.goto (-49), 3) := by decide +kernel
theorem dd_R_doubled_71 : decode cc_R_doubled 71 = .ok (.aload_n 0, 1) := by decide +kernel
theorem dd_R_doubled_72 : decode cc_R_doubled 72 = .ok (.getfield 25, 3) := by decide +kernel
theorem dd_R_doubled_75 : decode cc_R_doubled 75 = .ok (.bipush 15, 2) := by decide +kernel
theorem dd_R_doubled_77 : decode cc_R_doubled 77 = .ok (.iload_n 1, 1) := by decide +kernel
theorem dd_R_doubled_78 : decode cc_R_doubled 78 = .ok (.ifCond .eq 17, 3) := by decide +kernel
theorem dd_R_doubled_81 : decode cc_R_doubled 81 = .ok (.aload_n 0, 1) := by decide +kernel
theorem dd_R_doubled_82 : decode cc_R_doubled 82 = .ok (.getfield 25, 3) := by decide +kernel
theorem dd_R_doubled_85 : decode cc_R_doubled 85 = .ok (.bipush 15, 2) := by decide +kernel
theorem dd_R_doubled_87 : decode cc_R_doubled 87 = .ok (.iaload, 1) := by decide +kernel
theorem dd_R_doubled_88 : decode cc_R_doubled 88 = .ok (.sipush 135, 3) := by decide +kernel
theorem dd_R_doubled_91 : decode cc_R_doubled 91 = .ok (.ixor, 1) := by decide +kernel
theorem dd_R_doubled_92 : decode cc_R_doubled 92 = .ok (.goto 10, 3) := by decide +kernel
theorem dd_R_doubled_95 : decode cc_R_doubled 95 = .ok (.aload_n 0, 1) := by decide +kernel
theorem dd_R_doubled_96 : decode cc_R_doubled 96 = .ok (.getfield 25, 3) := by decide +kernel
theorem dd_R_doubled_99 : decode cc_R_doubled 99 = .ok (.bipush 15, 2) := by decide +kernel
theorem dd_R_doubled_101 : decode cc_R_doubled 101 = .ok (.iaload, 1) := by decide +kernel
theorem dd_R_doubled_102 : decode cc_R_doubled 102 = .ok (.iastore, 1) := by decide +kernel
theorem dd_R_doubled_103 : decode cc_R_doubled 103 = .ok (.return_, 1) := by decide +kernel
theorem dd_R_mac_0 : decode cc_R_mac 0 = .ok (.iconst 0, 1) := by decide +kernel
theorem dd_R_mac_1 : decode cc_R_mac 1 = .ok (.istore_n 3, 1) := by decide +kernel
theorem dd_R_mac_2 : decode cc_R_mac 2 = .ok (.iload_n 3, 1) := by decide +kernel
theorem dd_R_mac_3 : decode cc_R_mac 3 = .ok (.bipush 16, 2) := by decide +kernel
theorem dd_R_mac_5 : decode cc_R_mac 5 = .ok (.if_icmp .ge 16, 3) := by decide +kernel
theorem dd_R_mac_8 : decode cc_R_mac 8 = .ok (.aload_n 0, 1) := by decide +kernel
theorem dd_R_mac_9 : decode cc_R_mac 9 = .ok (.getfield 19, 3) := by decide +kernel
theorem dd_R_mac_12 : decode cc_R_mac 12 = .ok (.iload_n 3, 1) := by decide +kernel
theorem dd_R_mac_13 : decode cc_R_mac 13 = .ok (.iconst 0, 1) := by decide +kernel
theorem dd_R_mac_14 : decode cc_R_mac 14 = .ok (.iastore, 1) := by decide +kernel
theorem dd_R_mac_15 : decode cc_R_mac 15 = .ok (.iinc 3 1, 3) := by decide +kernel
theorem dd_R_mac_18 : decode cc_R_mac 18 = .ok (.goto (-16), 3) := by decide +kernel
theorem dd_R_mac_21 : decode cc_R_mac 21 = .ok (.aload_n 0, 1) := by decide +kernel
theorem dd_R_mac_22 : decode cc_R_mac 22 = .ok (.iload_n 1, 1) := by decide +kernel
theorem dd_R_mac_23 : decode cc_R_mac 23 = .ok (.invokevirtual 149, 3) := by decide +kernel
theorem dd_R_mac_26 : decode cc_R_mac 26 = .ok (.iconst 0, 1) := by decide +kernel
theorem dd_R_mac_27 : decode cc_R_mac 27 = .ok (.istore_n 3, 1) := by decide +kernel
theorem dd_R_mac_28 : decode cc_R_mac 28 = .ok (.iload_n 3, 1) := by decide +kernel
theorem dd_R_mac_29 : decode cc_R_mac 29 = .ok (.bipush 16, 2) := by decide +kernel
theorem dd_R_mac_31 : decode cc_R_mac 31 = .ok (.if_icmp .ge 21, 3) := by decide +kernel
theorem dd_R_mac_34 : decode cc_R_mac 34 = .ok (.aload_n 0, 1) := by decide +kernel
theorem dd_R_mac_35 : decode cc_R_mac 35 = .ok (.getfield 25, 3) := by decide +kernel
theorem dd_R_mac_38 : decode cc_R_mac 38 = .ok (.iload_n 3, 1) := by decide +kernel
theorem dd_R_mac_39 : decode cc_R_mac 39 = .ok (.aload_n 0, 1) := by decide +kernel
theorem dd_R_mac_40 : decode cc_R_mac 40 = .ok (.getfield 19, 3) := by decide +kernel
theorem dd_R_mac_43 : decode cc_R_mac 43 = .ok (.iload_n 3, 1) := by decide +kernel
theorem dd_R_mac_44 : decode cc_R_mac 44 = .ok (.iaload, 1) := by decide +kernel
theorem dd_R_mac_45 : decode cc_R_mac 45 = .ok (.iastore, 1) := by decide +kernel
theorem dd_R_mac_46 : decode cc_R_mac 46 = .ok (.iinc 3 1, 3) := by decide +kernel
theorem dd_R_mac_49 : decode cc_R_mac 49 = .ok (.goto (-21), 3) := by decide +kernel
theorem dd_R_mac_52 : decode cc_R_mac 52 = .ok (.aload_n 0, 1) := by decide +kernel
theorem dd_R_mac_53 : decode cc_R_mac 53 = .ok (.invokevirtual 152, 3) := by decide +kernel
theorem dd_R_mac_56 : decode cc_R_mac 56 = .ok (.iload_n 2, 1) := by decide +kernel
theorem dd_R_mac_57 : decode cc_R_mac 57 = .ok (.ifCond .ne 7, 3) := by decide +kernel
theorem dd_R_mac_60 : decode cc_R_mac 60 = .ok (.iconst 1, 1) := by decide +kernel
theorem dd_R_mac_61 : decode cc_R_mac 61 = .ok (.goto 10, 3) := by decide +kernel
theorem dd_R_mac_64 : decode cc_R_mac 64 = .ok (.iload_n 2, 1) := by decide +kernel
theorem dd_R_mac_65 : decode cc_R_mac 65 = .ok (.bipush 15, 2) := by decide +kernel
theorem dd_R_mac_67 : decode cc_R_mac 67 = .ok (.iadd, 1) := by decide +kernel
theorem dd_R_mac_68 : decode cc_R_mac 68 = .ok (.bipush 16, 2) := by decide +kernel
theorem dd_R_mac_70 : decode cc_R_mac 70 = .ok (.idiv, 1) := by decide +kernel
theorem dd_R_mac_71 : decode cc_R_mac 71 = .ok (.istore_n 3, 1) := by decide +kernel
theorem dd_R_mac_72 : decode cc_R_mac 72 = .ok (.iload_n 2, 1) := by decide +kernel
theorem dd_R_mac_73 : decode cc_R_mac 73 = .ok (.ifCond .le 14, 3) := by decide +kernel
theorem dd_R_mac_76 : decode cc_R_mac 76 = .ok (.iload_n 2, 1) := by decide +kernel
theorem dd_R_mac_77 : decode cc_R_mac 77 = .ok (.bipush 16, 2) := by decide +kernel
theorem dd_R_mac_79 : decode cc_R_mac 79 = .ok (.irem, 1) := by decide +kernel
theorem dd_R_mac_80 : decode cc_R_mac 80 = .ok (.ifCond .ne 7, 3) := by decide +kernel
theorem dd_R_mac_83 : decode cc_R_mac 83 = .ok (.iconst 1, 1) := by decide +kernel
theorem dd_R_mac_84 : decode cc_R_mac 84 = .ok (.goto 4, 3) := by decide +kernel
theorem dd_R_mac_87 : decode cc_R_mac 87 = .ok (.iconst 0, 1) := by decide +kernel
theorem dd_R_mac_88 : decode cc_R_mac 88 = .ok (.istore 4, 2) := by decide +kernel
theorem dd_R_mac_90 : decode cc_R_mac 90 = .ok (.iload 4, 2) := by decide +kernel
theorem dd_R_mac_92 : decode cc_R_mac 92 = .ok (.ifCond .ne 44, 3) := by decide +kernel
theorem dd_R_mac_95 : decode cc_R_mac 95 = .ok (.aload_n 0, 1) := by decide +kernel
theorem dd_R_mac_96 : decode cc_R_mac 96 = .ok (.invokevirtual 152, 3) := by decide +kernel
theorem dd_R_mac_99 : decode cc_R_mac 99 = .ok (.aload_n 0, 1) := by decide +kernel
theorem dd_R_mac_100 : decode cc_R_mac 100 = .ok (.getfield 31, 3) := by decide +kernel
theorem dd_R_mac_103 : decode cc_R_mac 103 = .ok (.iload_n 2, 1) := by decide +kernel
theorem dd_R_mac_104 : decode cc_R_mac 104 = .ok (.sipush 128, 3) := by decide +kernel
theorem dd_R_mac_107 : decode cc_R_mac 107 = .ok (.iastore, 1) := by decide +kernel
theorem dd_R_mac_108 : decode cc_R_mac 108 = .ok (.iload_n 2, 1) := by decide +kernel
theorem dd_R_mac_109 : decode cc_R_mac 109 = .ok (.iconst 1, 1) := by decide +kernel
theorem dd_R_mac_110 : decode cc_R_mac 110 = .ok (.iadd, 1) := by decide +kernel
theorem dd_R_mac_111 : decode cc_R_mac 111 = .ok (.istore 5, 2) := by decide +kernel
theorem dd_R_mac_113 : decode cc_R_mac 113 = .ok (.iload 5, 2) := by decide +kernel
theorem dd_R_mac_115 : decode cc_R_mac 115 = .ok (.bipush 16, 2) := by decide +kernel
theorem dd_R_mac_117 : decode cc_R_mac 117 = .ok (.iload_n 3, 1) := by decide +kernel
theorem dd_R_mac_118 : decode cc_R_mac 118 = .ok (.imul, 1) := by decide +kernel
theorem dd_R_mac_119 : decode cc_R_mac 119 = .ok (.if_icmp .ge 17, 3) := by decide +kernel
theorem dd_R_mac_122 : decode cc_R_mac 122 = .ok (.aload_n 0, 1) := by decide +kernel
theorem dd_R_mac_123 : decode cc_R_mac 123 = .ok (.getfield 31, 3) := by decide +kernel
theorem dd_R_mac_126 : decode cc_R_mac 126 = .ok (.iload 5, 2) := by decide +kernel
theorem dd_R_mac_128 : decode cc_R_mac 128 = .ok (.iconst 0, 1) := by decide +kernel
theorem dd_R_mac_129 : decode cc_R_mac 129 = .ok (.iastore, 1) := by decide +kernel
theorem dd_R_mac_130 : decode cc_R_mac 130 = .ok (.iinc 5 1, 3) := by decide +kernel
theorem dd_R_mac_133 : decode cc_R_mac 133 = .ok (.goto (-20), 3) := by decide +kernel
theorem dd_R_mac_136 : decode cc_R_mac 136 = .ok (.iconst 0, 1) := by decide +kernel
theorem dd_R_mac_137 : decode cc_R_mac 137 = .ok (.istore 5, 2) := by decide +kernel
theorem dd_R_mac_139 : decode cc_R_mac 139 = .ok (.iload 5, 2) := by decide +kernel
theorem dd_R_mac_141 : decode cc_R_mac 141 = .ok (.bipush 16, 2) := by decide +kernel
theorem dd_R_mac_143 : decode cc_R_mac 143 = .ok (.if_icmp .ge 17, 3) := by decide +kernel
theorem dd_R_mac_146 : decode cc_R_mac 146 = .ok (.aload_n 0, 1) := by decide +kernel
theorem dd_R_mac_147 : decode cc_R_mac 147 = .ok (.getfield 19, 3) := by decide +kernel
theorem dd_R_mac_150 : decode cc_R_mac 150 = .ok (.iload 5, 2) := by decide +kernel
theorem dd_R_mac_152 : decode cc_R_mac 152 = .ok (.iconst 0, 1) := by decide +kernel
theorem dd_R_mac_153 : decode cc_R_mac 153 = .ok (.iastore, 1) := by decide +kernel
theorem dd_R_mac_154 : decode cc_R_mac 154 = .ok (.iinc 5 1, 3) := by decide +kernel
theorem dd_R_mac_157 : decode cc_R_mac 157 = .ok (.goto (-18), 3) := by decide +kernel
theorem dd_R_mac_160 : decode cc_R_mac 160 = .ok (.iconst 0, 1) := by decide +kernel
theorem dd_R_mac_161 : decode cc_R_mac 161 = .ok (.istore 5, 2) := by decide +kernel
theorem dd_R_mac_163 : decode cc_R_mac 163 = .ok (.iload 5, 2) := by decide +kernel
theorem dd_R_mac_165 : decode cc_R_mac 165 = .ok (.iload_n 3, 1) := by decide +kernel
theorem dd_R_mac_166 : decode cc_R_mac 166 = .ok (.if_icmp .ge 78, 3) := by decide +kernel
theorem dd_R_mac_169 : decode cc_R_mac 169 = .ok (.iconst 0, 1) := by decide +kernel
theorem dd_R_mac_170 : decode cc_R_mac 170 = .ok (.istore 6, 2) := by decide +kernel
theorem dd_R_mac_172 : decode cc_R_mac 172 = .ok (.iload 6, 2) := by decide +kernel
theorem dd_R_mac_174 : decode cc_R_mac 174 = .ok (.bipush 16, 2) := by decide +kernel
theorem dd_R_mac_176 : decode cc_R_mac 176 = .ok (.if_icmp .ge 57, 3) := by decide +kernel
theorem dd_R_mac_179 : decode cc_R_mac 179 = .ok (.aload_n 0, 1) := by decide +kernel
theorem dd_R_mac_180 : decode cc_R_mac 180 = .ok (.getfield 19, 3) := by decide +kernel
theorem dd_R_mac_183 : decode cc_R_mac 183 = .ok (.iload 6, 2) := by decide +kernel
theorem dd_R_mac_185 : decode cc_R_mac 185 = .ok (.aload_n 0, 1) := by decide +kernel
theorem dd_R_mac_186 : decode cc_R_mac 186 = .ok (.getfield 19, 3) := by decide +kernel
theorem dd_R_mac_189 : decode cc_R_mac 189 = .ok (.iload 6, 2) := by decide +kernel
theorem dd_R_mac_191 : decode cc_R_mac 191 = .ok (.iaload, 1) := by decide +kernel
theorem dd_R_mac_192 : decode cc_R_mac 192 = .ok (.aload_n 0, 1) := by decide +kernel
theorem dd_R_mac_193 : decode cc_R_mac 193 = .ok (.getfield 31, 3) := by decide +kernel
theorem dd_R_mac_196 : decode cc_R_mac 196 = .ok (.bipush 16, 2) := by decide +kernel
theorem dd_R_mac_198 : decode cc_R_mac 198 = .ok (.iload 5, 2) := by decide +kernel
theorem dd_R_mac_200 : decode cc_R_mac 200 = .ok (.imul, 1) := by decide +kernel
theorem dd_R_mac_201 : decode cc_R_mac 201 = .ok (.iload 6, 2) := by decide +kernel
theorem dd_R_mac_203 : decode cc_R_mac 203 = .ok (.iadd, 1) := by decide +kernel
theorem dd_R_mac_204 : decode cc_R_mac 204 = .ok (.iaload, 1) := by decide +kernel
theorem dd_R_mac_205 : decode cc_R_mac 205 = .ok (.ixor, 1) := by decide +kernel
theorem dd_R_mac_206 : decode cc_R_mac 206 = .ok (.iload 5, 2) := by decide +kernel
theorem dd_R_mac_208 : decode cc_R_mac 208 = .ok (.iload_n 3, 1) := by decide +kernel
theorem dd_R_mac_209 : decode cc_R_mac 209 = .ok (.iconst 1, 1) := by decide +kernel
theorem dd_R_mac_210 : decode cc_R_mac 210 = .ok (.isub, 1) := by decide +kernel
theorem dd_R_mac_211 : decode cc_R_mac 211 = .ok (.if_icmp .ne 13, 3) := by decide +kernel
theorem dd_R_mac_214 : decode cc_R_mac 214 = .ok (.aload_n 0, 1) := by decide +kernel
theorem dd_R_mac_215 : decode cc_R_mac 215 = .ok (.getfield 25, 3) := by decide +kernel
theorem dd_R_mac_218 : decode cc_R_mac 218 = .ok (.iload 6, 2) := by decide +kernel
theorem dd_R_mac_220 : decode cc_R_mac 220 = .ok (.iaload, 1) := by decide +kernel
theorem dd_R_mac_221 : decode cc_R_mac 221 = .ok (.goto 4, 3) := by decide +kernel
theorem dd_R_mac_224 : decode cc_R_mac 224 = .ok (.iconst 0, 1) := by decide +kernel
theorem dd_R_mac_225 : decode cc_R_mac 225 = .ok (.ixor, 1) := by decide +kernel
theorem dd_R_mac_226 : decode cc_R_mac 226 = .ok (.iastore, 1) := by decide +kernel
theorem dd_R_mac_227 : decode cc_R_mac 227 = .ok (.iinc 6 1, 3) := by decide +kernel
theorem dd_R_mac_230 : decode cc_R_mac 230 = .ok (.goto (-58), 3) := by decide +kernel
theorem dd_R_mac_233 : decode cc_R_mac 233 = .ok (.aload_n 0, 1) := by decide +kernel
theorem dd_R_mac_234 : decode cc_R_mac 234 = .ok (.iload_n 1, 1) := by decide +kernel
theorem dd_R_mac_235 : decode cc_R_mac 235 = .ok (.invokevirtual 149, 3) := by decide +kernel
theorem dd_R_mac_238 : decode cc_R_mac 238 = .ok (.iinc 5 1, 3) := by decide +kernel
theorem dd_R_mac_241 : decode cc_R_mac 241 = .ok (.goto (-78), 3) := by decide +kernel
theorem dd_R_mac_244 : decode cc_R_mac 244 = .ok (.iconst 0, 1) := by decide +kernel
theorem dd_R_mac_245 : decode cc_R_mac 245 = .ok (.istore 5, 2) := by decide +kernel
theorem dd_R_mac_247 : decode cc_R_mac 247 = .ok (.iload 5, 2) := by decide +kernel
theorem dd_R_mac_249 : decode cc_R_mac 249 = .ok (.bipush 16, 2) := by decide +kernel
theorem dd_R_mac_251 : decode cc_R_mac 251 = .ok (.if_icmp .ge 23, 3) := by decide +kernel
theorem dd_R_mac_254 : decode cc_R_mac 254 = .ok (.aload_n 0, 1) := by decide +kernel
theorem dd_R_mac_255 : decode cc_R_mac 255 = .ok (.getfield 25, 3) := by decide +kernel
theorem dd_R_mac_258 : decode cc_R_mac 258 = .ok (.iload 5, 2) := by decide +kernel
theorem dd_R_mac_260 : decode cc_R_mac 260 = .ok (.aload_n 0, 1) := by decide +kernel
theorem dd_R_mac_261 : decode cc_R_mac 261 = .ok (.getfield 19, 3) := by decide +kernel
theorem dd_R_mac_264 : decode cc_R_mac 264 = .ok (.iload 5, 2) := by decide +kernel
theorem dd_R_mac_266 : decode cc_R_mac 266 = .ok (.iaload, 1) := by decide +kernel
theorem dd_R_mac_267 : decode cc_R_mac 267 = .ok (.iastore, 1) := by decide +kernel
theorem dd_R_mac_268 : decode cc_R_mac 268 = .ok (.iinc 5 1, 3) := by decide +kernel
theorem dd_R_mac_271 : decode cc_R_mac 271 = .ok (.goto (-24), 3) := by decide +kernel
theorem dd_R_mac_274 : decode cc_R_mac 274 = .ok (.return_, 1) := by decide +kernel
