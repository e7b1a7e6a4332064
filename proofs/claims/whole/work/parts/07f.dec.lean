theorem dd_R_timeOut_0 : decode cc_R_timeOut 0 = .ok (.aload_n 0, 1) := by decide +kernel
theorem dd_R_timeOut_1 : decode cc_R_timeOut 1 = .ok (.getfield 46, 3) := by decide +kernel
theorem dd_R_timeOut_4 : decode cc_R_timeOut 4 = .ok (.iload_n 1, 1) := by decide +kernel
theorem dd_R_timeOut_5 : decode cc_R_timeOut 5 = .ok (.baload, 1) := by decide +kernel
theorem dd_R_timeOut_6 : decode cc_R_timeOut 6 = .ok (.ifCond .eq 18, 3) := by decide +kernel
theorem dd_R_timeOut_9 : decode cc_R_timeOut 9 = .ok (.aload_n 0, 1) := by decide +kernel
theorem dd_R_timeOut_10 : decode cc_R_timeOut 10 = .ok (.getfield 191, 3) := by decide +kernel
theorem dd_R_timeOut_13 : decode cc_R_timeOut 13 = .ok (.aload_n 0, 1) := by decide +kernel
theorem dd_R_timeOut_14 : decode cc_R_timeOut 14 = .ok (.getfield 50, 3) := by decide +kernel
theorem dd_R_timeOut_17 : decode cc_R_timeOut 17 = .ok (.iload_n 1, 1) := by decide +kernel
theorem dd_R_timeOut_18 : decode cc_R_timeOut 18 = .ok (.iaload, 1) := by decide +kernel
theorem dd_R_timeOut_19 : decode cc_R_timeOut 19 = .ok (.iconst 3, 1) := by decide +kernel
theorem dd_R_timeOut_20 : decode cc_R_timeOut 20 = .ok (.iadd, 1) := by decide +kernel
theorem dd_R_timeOut_21 : decode cc_R_timeOut 21 = .ok (.if_icmp .eq 4, 3) := by decide +kernel
theorem dd_R_timeOut_24 : decode cc_R_timeOut 24 = .ok (.return_, 1) := by decide +kernel
theorem dd_R_timeOut_25 : decode cc_R_timeOut 25 = .ok (.aload_n 0, 1) := by decide +kernel
theorem dd_R_timeOut_26 : decode cc_R_timeOut 26 = .ok (.getfield 46, 3) := by decide +kernel
theorem dd_R_timeOut_29 : decode cc_R_timeOut 29 = .ok (.iload_n 1, 1) := by decide +kernel
theorem dd_R_timeOut_30 : decode cc_R_timeOut 30 = .ok (.iconst 0, 1) := by decide +kernel
theorem dd_R_timeOut_31 : decode cc_R_timeOut 31 = .ok (.bastore, 1) := by decide +kernel
theorem dd_R_timeOut_32 : decode cc_R_timeOut 32 = .ok (.aload_n 0, 1) := by decide +kernel
theorem dd_R_timeOut_33 : decode cc_R_timeOut 33 = .ok (.getfield 43, 3) := by decide +kernel
theorem dd_R_timeOut_36 : decode cc_R_timeOut 36 = .ok (.iload_n 1, 1) := by decide +kernel
theorem dd_R_timeOut_37 : decode cc_R_timeOut 37 = .ok (.iaload, 1) := by decide +kernel
theorem dd_R_timeOut_38 : decode cc_R_timeOut 38 = .ok (.iconst 1, 1) := by decide +kernel
theorem dd_R_timeOut_39 : decode cc_R_timeOut 39 = .ok (.if_icmp .ne 13, 3) := by decide +kernel
theorem dd_R_timeOut_42 : decode cc_R_timeOut 42 = .ok (.aload_n 0, 1) := by decide +kernel
theorem dd_R_timeOut_43 : decode cc_R_timeOut 43 = .ok (.getfield 43, 3) := by decide +kernel
theorem dd_R_timeOut_46 : decode cc_R_timeOut 46 = .ok (.iload_n 1, 1) := by decide +kernel
theorem dd_R_timeOut_47 : decode cc_R_timeOut 47 = .ok (.iconst 0, 1) := by decide +kernel
theorem dd_R_timeOut_48 : decode cc_R_timeOut 48 = .ok (.iastore, 1) := by decide +kernel
theorem dd_R_timeOut_49 : decode cc_R_timeOut 49 = .ok (.goto 58, 3) := by decide +kernel
theorem dd_R_timeOut_52 : decode cc_R_timeOut 52 = .ok (.aload_n 0, 1) := by decide +kernel
theorem dd_R_timeOut_53 : decode cc_R_timeOut 53 = .ok (.iload_n 1, 1) := by decide +kernel
theorem dd_R_timeOut_54 : decode cc_R_timeOut 54 = .ok (.invokevirtual 217, 3) := by decide +kernel
theorem dd_R_timeOut_57 : decode cc_R_timeOut 57 = .ok (.ifCond .eq 37, 3) := by decide +kernel
theorem dd_R_timeOut_60 : decode cc_R_timeOut 60 = .ok (.aload_n 0, 1) := by decide +kernel
theorem dd_R_timeOut_61 : decode cc_R_timeOut 61 = .ok (.getfield 53, 3) := by decide +kernel
theorem dd_R_timeOut_64 : decode cc_R_timeOut 64 = .ok (.iload_n 1, 1) := by decide +kernel
theorem dd_R_timeOut_65 : decode cc_R_timeOut 65 = .ok (.iaload, 1) := by decide +kernel
theorem dd_R_timeOut_66 : decode cc_R_timeOut 66 = .ok (.iconst 4, 1) := by decide +kernel
theorem dd_R_timeOut_67 : decode cc_R_timeOut 67 = .ok (.if_icmp .ne 27, 3) := by decide +kernel
theorem dd_R_timeOut_70 : decode cc_R_timeOut 70 = .ok (.aload_n 0, 1) := by decide +kernel
theorem dd_R_timeOut_71 : decode cc_R_timeOut 71 = .ok (.getfield 43, 3) := by decide +kernel
theorem dd_R_timeOut_74 : decode cc_R_timeOut 74 = .ok (.iload_n 1, 1) := by decide +kernel
theorem dd_R_timeOut_75 : decode cc_R_timeOut 75 = .ok (.iconst 0, 1) := by decide +kernel
theorem dd_R_timeOut_76 : decode cc_R_timeOut 76 = .ok (.iastore, 1) := by decide +kernel
theorem dd_R_timeOut_77 : decode cc_R_timeOut 77 = .ok (.aload_n 0, 1) := by decide +kernel
theorem dd_R_timeOut_78 : decode cc_R_timeOut 78 = .ok (.getfield 117, 3) := by decide +kernel
theorem dd_R_timeOut_81 : decode cc_R_timeOut 81 = .ok (.iconst 3, 1) := by decide +kernel
theorem dd_R_timeOut_82 : decode cc_R_timeOut 82 = .ok (.iload_n 1, 1) := by decide +kernel
theorem dd_R_timeOut_83 : decode cc_R_timeOut 83 = .ok (.imul, 1) := by decide +kernel
theorem dd_R_timeOut_84 : decode cc_R_timeOut 84 = .ok (.iconst 1, 1) := by decide +kernel
theorem dd_R_timeOut_85 : decode cc_R_timeOut 85 = .ok (.iadd, 1) := by decide +kernel
theorem dd_R_timeOut_86 : decode cc_R_timeOut 86 = .ok (.dup2, 1) := by decide +kernel
theorem dd_R_timeOut_87 : decode cc_R_timeOut 87 = .ok (.iaload, 1) := by decide +kernel
theorem dd_R_timeOut_88 : decode cc_R_timeOut 88 = .ok (.iconst 1, 1) := by decide +kernel
theorem dd_R_timeOut_89 : decode cc_R_timeOut 89 = .ok (.iadd, 1) := by decide +kernel
theorem dd_R_timeOut_90 : decode cc_R_timeOut 90 = .ok (.iastore, 1) := by decide +kernel
theorem dd_R_timeOut_91 : decode cc_R_timeOut 91 = .ok (.goto 16, 3) := by decide +kernel
theorem dd_R_timeOut_94 : decode cc_R_timeOut 94 = .ok (.aload_n 0, 1) := by decide +kernel
theorem dd_R_timeOut_95 : decode cc_R_timeOut 95 = .ok (.iload_n 1, 1) := by decide +kernel
theorem dd_R_timeOut_96 : decode cc_R_timeOut 96 = .ok (.invokevirtual 217, 3) := by decide +kernel
theorem dd_R_timeOut_99 : decode cc_R_timeOut 99 = .ok (.ifCond .eq 8, 3) := by decide +kernel
theorem dd_R_timeOut_102 : decode cc_R_timeOut 102 = .ok (.aload_n 0, 1) := by decide +kernel
theorem dd_R_timeOut_103 : decode cc_R_timeOut 103 = .ok (.iload_n 1, 1) := by decide +kernel
theorem dd_R_timeOut_104 : decode cc_R_timeOut 104 = .ok (.invokevirtual 205, 3) := by decide +kernel
theorem dd_R_timeOut_107 : decode cc_R_timeOut 107 = .ok (.return_, 1) := by decide +kernel
theorem dd_R_takeAccept_0 : decode cc_R_takeAccept 0 = .ok (.aload_n 0, 1) := by decide +kernel
theorem dd_R_takeAccept_1 : decode cc_R_takeAccept 1 = .ok (.getfield 37, 3) := by decide +kernel
theorem dd_R_takeAccept_4 : decode cc_R_takeAccept 4 = .ok (.bipush 23, 2) := by decide +kernel
theorem dd_R_takeAccept_6 : decode cc_R_takeAccept 6 = .ok (.iaload, 1) := by decide +kernel
theorem dd_R_takeAccept_7 : decode cc_R_takeAccept 7 = .ok (.bipush 17, 2) := by decide +kernel
theorem dd_R_takeAccept_9 : decode cc_R_takeAccept 9 = .ok (.if_icmp .ne 15, 3) := by decide +kernel
theorem dd_R_takeAccept_12 : decode cc_R_takeAccept 12 = .ok (.aload_n 0, 1) := by decide +kernel
theorem dd_R_takeAccept_13 : decode cc_R_takeAccept 13 = .ok (.bipush 23, 2) := by decide +kernel
theorem dd_R_takeAccept_15 : decode cc_R_takeAccept 15 = .ok (.iconst 0, 1) := by decide +kernel
theorem dd_R_takeAccept_16 : decode cc_R_takeAccept 16 = .ok (.invokevirtual 158, 3) := by decide +kernel
theorem dd_R_takeAccept_19 : decode cc_R_takeAccept 19 = .ok (.bipush 32, 2) := by decide +kernel
theorem dd_R_takeAccept_21 : decode cc_R_takeAccept 21 = .ok (.if_icmp .eq 4, 3) := by decide +kernel
theorem dd_R_takeAccept_24 : decode cc_R_takeAccept 24 = .ok (.return_, 1) := by decide +kernel
theorem dd_R_takeAccept_25 : decode cc_R_takeAccept 25 = .ok (.iconst 0, 1) := by decide +kernel
theorem dd_R_takeAccept_26 : decode cc_R_takeAccept 26 = .ok (.istore_n 2, 1) := by decide +kernel
theorem dd_R_takeAccept_27 : decode cc_R_takeAccept 27 = .ok (.iload_n 2, 1) := by decide +kernel
theorem dd_R_takeAccept_28 : decode cc_R_takeAccept 28 = .ok (.bipush 16, 2) := by decide +kernel
theorem dd_R_takeAccept_30 : decode cc_R_takeAccept 30 = .ok (.if_icmp .ge 24, 3) := by decide +kernel
theorem dd_R_takeAccept_33 : decode cc_R_takeAccept 33 = .ok (.aload_n 0, 1) := by decide +kernel
theorem dd_R_takeAccept_34 : decode cc_R_takeAccept 34 = .ok (.getfield 19, 3) := by decide +kernel
theorem dd_R_takeAccept_37 : decode cc_R_takeAccept 37 = .ok (.iload_n 2, 1) := by decide +kernel
theorem dd_R_takeAccept_38 : decode cc_R_takeAccept 38 = .ok (.aload_n 0, 1) := by decide +kernel
theorem dd_R_takeAccept_39 : decode cc_R_takeAccept 39 = .ok (.bipush 23, 2) := by decide +kernel
theorem dd_R_takeAccept_41 : decode cc_R_takeAccept 41 = .ok (.iconst 1, 1) := by decide +kernel
theorem dd_R_takeAccept_42 : decode cc_R_takeAccept 42 = .ok (.iload_n 2, 1) := by decide +kernel
theorem dd_R_takeAccept_43 : decode cc_R_takeAccept 43 = .ok (.iadd, 1) := by decide +kernel
theorem dd_R_takeAccept_44 : decode cc_R_takeAccept 44 = .ok (.invokevirtual 158, 3) := by decide +kernel
theorem dd_R_takeAccept_47 : decode cc_R_takeAccept 47 = .ok (.iastore, 1) := by decide +kernel
theorem dd_R_takeAccept_48 : decode cc_R_takeAccept 48 = .ok (.iinc 2 1, 3) := by decide +kernel
theorem dd_R_takeAccept_51 : decode cc_R_takeAccept 51 = .ok (.goto (-24), 3) := by decide +kernel
theorem dd_R_takeAccept_54 : decode cc_R_takeAccept 54 = .ok (.aload_n 0, 1) := by decide +kernel
theorem dd_R_takeAccept_55 : decode cc_R_takeAccept 55 = .ok (.iload_n 1, 1) := by decide +kernel
theorem dd_R_takeAccept_56 : decode cc_R_takeAccept 56 = .ok (.invokevirtual 149, 3) := by decide +kernel
theorem dd_R_takeAccept_59 : decode cc_R_takeAccept 59 = .ok (.iconst 0, 1) := by decide +kernel
theorem dd_R_takeAccept_60 : decode cc_R_takeAccept 60 = .ok (.istore_n 2, 1) := by decide +kernel
theorem dd_R_takeAccept_61 : decode cc_R_takeAccept 61 = .ok (.iload_n 2, 1) := by decide +kernel
theorem dd_R_takeAccept_62 : decode cc_R_takeAccept 62 = .ok (.bipush 16, 2) := by decide +kernel
theorem dd_R_takeAccept_64 : decode cc_R_takeAccept 64 = .ok (.if_icmp .ge 25, 3) := by decide +kernel
theorem dd_R_takeAccept_67 : decode cc_R_takeAccept 67 = .ok (.aload_n 0, 1) := by decide +kernel
theorem dd_R_takeAccept_68 : decode cc_R_takeAccept 68 = .ok (.getfield 34, 3) := by decide +kernel
theorem dd_R_takeAccept_71 : decode cc_R_takeAccept 71 = .ok (.sipush 737, 3) := by decide +kernel
theorem dd_R_takeAccept_74 : decode cc_R_takeAccept 74 = .ok (.iload_n 2, 1) := by decide +kernel
theorem dd_R_takeAccept_75 : decode cc_R_takeAccept 75 = .ok (.iadd, 1) := by decide +kernel
theorem dd_R_takeAccept_76 : decode cc_R_takeAccept 76 = .ok (.aload_n 0, 1) := by decide +kernel
theorem dd_R_takeAccept_77 : decode cc_R_takeAccept 77 = .ok (.getfield 19, 3) := by decide +kernel
theorem dd_R_takeAccept_80 : decode cc_R_takeAccept 80 = .ok (.iload_n 2, 1) := by decide +kernel
theorem dd_R_takeAccept_81 : decode cc_R_takeAccept 81 = .ok (.iaload, 1) := by decide +kernel
theorem dd_R_takeAccept_82 : decode cc_R_takeAccept 82 = .ok (.iastore, 1) := by decide +kernel
theorem dd_R_takeAccept_83 : decode cc_R_takeAccept 83 = .ok (.iinc 2 1, 3) := by decide +kernel
theorem dd_R_takeAccept_86 : decode cc_R_takeAccept 86 = .ok (.goto (-25), 3) := by decide +kernel
theorem dd_R_takeAccept_89 : decode cc_R_takeAccept 89 = .ok (.aload_n 0, 1) := by decide +kernel
theorem dd_R_takeAccept_90 : decode cc_R_takeAccept 90 = .ok (.bipush 23, 2) := by decide +kernel
theorem dd_R_takeAccept_92 : decode cc_R_takeAccept 92 = .ok (.bipush 13, 2) := by decide +kernel
theorem dd_R_takeAccept_94 : decode cc_R_takeAccept 94 = .ok (.iload_n 1, 1) := by decide +kernel
theorem dd_R_takeAccept_95 : decode cc_R_takeAccept 95 = .ok (.invokevirtual 202, 3) := by decide +kernel
theorem dd_R_takeAccept_98 : decode cc_R_takeAccept 98 = .ok (.aload_n 0, 1) := by decide +kernel
theorem dd_R_takeAccept_99 : decode cc_R_takeAccept 99 = .ok (.bipush 23, 2) := by decide +kernel
theorem dd_R_takeAccept_101 : decode cc_R_takeAccept 101 = .ok (.iconst 1, 1) := by decide +kernel
theorem dd_R_takeAccept_102 : decode cc_R_takeAccept 102 = .ok (.iconst 3, 1) := by decide +kernel
theorem dd_R_takeAccept_103 : decode cc_R_takeAccept 103 = .ok (.invokevirtual 221, 3) := by decide +kernel
theorem dd_R_takeAccept_106 : decode cc_R_takeAccept 106 = .ok (.istore_n 2, 1) := by decide +kernel
theorem dd_R_takeAccept_107 : decode cc_R_takeAccept 107 = .ok (.aload_n 0, 1) := by decide +kernel
theorem dd_R_takeAccept_108 : decode cc_R_takeAccept 108 = .ok (.bipush 23, 2) := by decide +kernel
theorem dd_R_takeAccept_110 : decode cc_R_takeAccept 110 = .ok (.invokevirtual 225, 3) := by decide +kernel
theorem dd_R_takeAccept_113 : decode cc_R_takeAccept 113 = .ok (.ifCond .eq 13, 3) := by decide +kernel
theorem dd_R_takeAccept_116 : decode cc_R_takeAccept 116 = .ok (.iload_n 2, 1) := by decide +kernel
theorem dd_R_takeAccept_117 : decode cc_R_takeAccept 117 = .ok (.aload_n 0, 1) := by decide +kernel
theorem dd_R_takeAccept_118 : decode cc_R_takeAccept 118 = .ok (.getfield 59, 3) := by decide +kernel
theorem dd_R_takeAccept_121 : decode cc_R_takeAccept 121 = .ok (.iload_n 1, 1) := by decide +kernel
theorem dd_R_takeAccept_122 : decode cc_R_takeAccept 122 = .ok (.iaload, 1) := by decide +kernel
theorem dd_R_takeAccept_123 : decode cc_R_takeAccept 123 = .ok (.if_icmp .gt 4, 3) := by decide +kernel
theorem dd_R_takeAccept_126 : decode cc_R_takeAccept 126 = .ok (.return_, 1) := by decide +kernel
theorem dd_R_takeAccept_127 : decode cc_R_takeAccept 127 = .ok (.aload_n 0, 1) := by decide +kernel
theorem dd_R_takeAccept_128 : decode cc_R_takeAccept 128 = .ok (.getfield 59, 3) := by decide +kernel
theorem dd_R_takeAccept_131 : decode cc_R_takeAccept 131 = .ok (.iload_n 1, 1) := by decide +kernel
theorem dd_R_takeAccept_132 : decode cc_R_takeAccept 132 = .ok (.iload_n 2, 1) := by decide +kernel
theorem dd_R_takeAccept_133 : decode cc_R_takeAccept 133 = .ok (.iastore, 1) := by decide +kernel
theorem dd_R_takeAccept_134 : decode cc_R_takeAccept 134 = .ok (.aload_n 0, 1) := by decide +kernel
theorem dd_R_takeAccept_135 : decode cc_R_takeAccept 135 = .ok (.getfield 62, 3) := by decide +kernel
theorem dd_R_takeAccept_138 : decode cc_R_takeAccept 138 = .ok (.iload_n 1, 1) := by decide +kernel
theorem dd_R_takeAccept_139 : decode cc_R_takeAccept 139 = .ok (.aload_n 0, 1) := by decide +kernel
theorem dd_R_takeAccept_140 : decode cc_R_takeAccept 140 = .ok (.bipush 23, 2) := by decide +kernel
theorem dd_R_takeAccept_142 : decode cc_R_takeAccept 142 = .ok (.bipush 7, 2) := by decide +kernel
theorem dd_R_takeAccept_144 : decode cc_R_takeAccept 144 = .ok (.iconst 4, 1) := by decide +kernel
theorem dd_R_takeAccept_145 : decode cc_R_takeAccept 145 = .ok (.invokevirtual 221, 3) := by decide +kernel
theorem dd_R_takeAccept_148 : decode cc_R_takeAccept 148 = .ok (.iastore, 1) := by decide +kernel
theorem dd_R_takeAccept_149 : decode cc_R_takeAccept 149 = .ok (.aload_n 0, 1) := by decide +kernel
theorem dd_R_takeAccept_150 : decode cc_R_takeAccept 150 = .ok (.iload_n 1, 1) := by decide +kernel
theorem dd_R_takeAccept_151 : decode cc_R_takeAccept 151 = .ok (.iload_n 2, 1) := by decide +kernel
theorem dd_R_takeAccept_152 : decode cc_R_takeAccept 152 = .ok (.aload_n 0, 1) := by decide +kernel
theorem dd_R_takeAccept_153 : decode cc_R_takeAccept 153 = .ok (.getfield 56, 3) := by decide +kernel
theorem dd_R_takeAccept_156 : decode cc_R_takeAccept 156 = .ok (.iload_n 1, 1) := by decide +kernel
theorem dd_R_takeAccept_157 : decode cc_R_takeAccept 157 = .ok (.iaload, 1) := by decide +kernel
theorem dd_R_takeAccept_158 : decode cc_R_takeAccept 158 = .ok (.iconst 3, 1) := by decide +kernel
theorem dd_R_takeAccept_159 : decode cc_R_takeAccept 159 = .ok (.iconst 2, 1) := by decide +kernel
theorem dd_R_takeAccept_160 : decode cc_R_takeAccept 160 = .ok (.iload_n 1, 1) := by decide +kernel
theorem dd_R_takeAccept_161 : decode cc_R_takeAccept 161 = .ok (.imul, 1) := by decide +kernel
theorem dd_R_takeAccept_162 : decode cc_R_takeAccept 162 = .ok (.iadd, 1) := by decide +kernel
theorem dd_R_takeAccept_163 : decode cc_R_takeAccept 163 = .ok (.invokevirtual 228, 3) := by decide +kernel
theorem dd_R_takeAccept_166 : decode cc_R_takeAccept 166 = .ok (.aload_n 0, 1) := by decide +kernel
theorem dd_R_takeAccept_167 : decode cc_R_takeAccept 167 = .ok (.getfield 43, 3) := by decide +kernel
theorem dd_R_takeAccept_170 : decode cc_R_takeAccept 170 = .ok (.iload_n 1, 1) := by decide +kernel
theorem dd_R_takeAccept_171 : decode cc_R_takeAccept 171 = .ok (.iconst 2, 1) := by decide +kernel
theorem dd_R_takeAccept_172 : decode cc_R_takeAccept 172 = .ok (.iastore, 1) := by decide +kernel
theorem dd_R_takeAccept_173 : decode cc_R_takeAccept 173 = .ok (.aload_n 0, 1) := by decide +kernel
theorem dd_R_takeAccept_174 : decode cc_R_takeAccept 174 = .ok (.getfield 46, 3) := by decide +kernel
theorem dd_R_takeAccept_177 : decode cc_R_takeAccept 177 = .ok (.iload_n 1, 1) := by decide +kernel
theorem dd_R_takeAccept_178 : decode cc_R_takeAccept 178 = .ok (.iconst 0, 1) := by decide +kernel
theorem dd_R_takeAccept_179 : decode cc_R_takeAccept 179 = .ok (.bastore, 1) := by decide +kernel
theorem dd_R_takeAccept_180 : decode cc_R_takeAccept 180 = .ok (.aload_n 0, 1) := by decide +kernel
theorem dd_R_takeAccept_181 : decode cc_R_takeAccept 181 = .ok (.getfield 65, 3) := by decide +kernel
theorem dd_R_takeAccept_184 : decode cc_R_takeAccept 184 = .ok (.iload_n 1, 1) := by decide +kernel
theorem dd_R_takeAccept_185 : decode cc_R_takeAccept 185 = .ok (.iconst 0, 1) := by decide +kernel
theorem dd_R_takeAccept_186 : decode cc_R_takeAccept 186 = .ok (.iastore, 1) := by decide +kernel
theorem dd_R_takeAccept_187 : decode cc_R_takeAccept 187 = .ok (.aload_n 0, 1) := by decide +kernel
theorem dd_R_takeAccept_188 : decode cc_R_takeAccept 188 = .ok (.getfield 68, 3) := by decide +kernel
theorem dd_R_takeAccept_191 : decode cc_R_takeAccept 191 = .ok (.iload_n 1, 1) := by decide +kernel
theorem dd_R_takeAccept_192 : decode cc_R_takeAccept 192 = .ok (.iconst (-1), 1) := by decide +kernel
theorem dd_R_takeAccept_193 : decode cc_R_takeAccept 193 = .ok (.iastore, 1) := by decide +kernel
theorem dd_R_takeAccept_194 : decode cc_R_takeAccept 194 = .ok (.return_, 1) := by decide +kernel
theorem dd_R_ending_0 : decode cc_R_ending 0 = .ok (.iload_n 1, 1) := by decide +kernel
theorem dd_R_ending_1 : decode cc_R_ending 1 = .ok (.iload_n 1, 1) := by decide +kernel
theorem dd_R_ending_2 : decode cc_R_ending 2 = .ok (.ldc 231, 2) := by decide +kernel
theorem dd_R_ending_4 : decode cc_R_ending 4 = .ok (.irem, 1) := by decide +kernel
theorem dd_R_ending_5 : decode cc_R_ending 5 = .ok (.isub, 1) := by decide +kernel
theorem dd_R_ending_6 : decode cc_R_ending 6 = .ok (.iload_n 0, 1) := by decide +kernel
theorem dd_R_ending_7 : decode cc_R_ending 7 = .ok (.iadd, 1) := by decide +kernel
theorem dd_R_ending_8 : decode cc_R_ending 8 = .ok (.istore_n 2, 1) := by decide +kernel
theorem dd_R_ending_9 : decode cc_R_ending 9 = .ok (.iload_n 2, 1) := by decide +kernel
theorem dd_R_ending_10 : decode cc_R_ending 10 = .ok (.iload_n 1, 1) := by decide +kernel
theorem dd_R_ending_11 : decode cc_R_ending 11 = .ok (.if_icmp .ge 10, 3) := by decide +kernel
theorem dd_R_ending_14 : decode cc_R_ending 14 = .ok (.iload_n 2, 1) := by decide +kernel
theorem dd_R_ending_15 : decode cc_R_ending 15 = .ok (.ldc 231, 2) := by decide +kernel
theorem dd_R_ending_17 : decode cc_R_ending 17 = .ok (.iadd, 1) := by decide +kernel
theorem dd_R_ending_18 : decode cc_R_ending 18 = .ok (.goto 4, 3) := by decide +kernel
theorem dd_R_ending_21 : decode cc_R_ending 21 = .ok (.iload_n 2, 1) := by decide +kernel
theorem dd_R_ending_22 : decode cc_R_ending 22 = .ok (.ireturn, 1) := by decide +kernel
theorem dd_R_takeData_0 : decode cc_R_takeData 0 = .ok (.aload_n 0, 1) := by decide +kernel
theorem dd_R_takeData_1 : decode cc_R_takeData 1 = .ok (.bipush 23, 2) := by decide +kernel
theorem dd_R_takeData_3 : decode cc_R_takeData 3 = .ok (.invokevirtual 232, 3) := by decide +kernel
theorem dd_R_takeData_6 : decode cc_R_takeData 6 = .ok (.istore_n 2, 1) := by decide +kernel
theorem dd_R_takeData_7 : decode cc_R_takeData 7 = .ok (.iload_n 2, 1) := by decide +kernel
theorem dd_R_takeData_8 : decode cc_R_takeData 8 = .ok (.ifCond .lt 32, 3) := by decide +kernel
theorem dd_R_takeData_11 : decode cc_R_takeData 11 = .ok (.aload_n 0, 1) := by decide +kernel
theorem dd_R_takeData_12 : decode cc_R_takeData 12 = .ok (.bipush 23, 2) := by decide +kernel
theorem dd_R_takeData_14 : decode cc_R_takeData 14 = .ok (.iconst 0, 1) := by decide +kernel
theorem dd_R_takeData_15 : decode cc_R_takeData 15 = .ok (.invokevirtual 158, 3) := by decide +kernel
theorem dd_R_takeData_18 : decode cc_R_takeData 18 = .ok (.bipush 96, 2) := by decide +kernel
theorem dd_R_takeData_20 : decode cc_R_takeData 20 = .ok (.if_icmp .ne 20, 3) := by decide +kernel
theorem dd_R_takeData_23 : decode cc_R_takeData 23 = .ok (.aload_n 0, 1) := by decide +kernel
theorem dd_R_takeData_24 : decode cc_R_takeData 24 = .ok (.bipush 23, 2) := by decide +kernel
theorem dd_R_takeData_26 : decode cc_R_takeData 26 = .ok (.iconst 1, 1) := by decide +kernel
theorem dd_R_takeData_27 : decode cc_R_takeData 27 = .ok (.iconst 4, 1) := by decide +kernel
theorem dd_R_takeData_28 : decode cc_R_takeData 28 = .ok (.invokevirtual 221, 3) := by decide +kernel
theorem dd_R_takeData_31 : decode cc_R_takeData 31 = .ok (.aload_n 0, 1) := by decide +kernel
theorem dd_R_takeData_32 : decode cc_R_takeData 32 = .ok (.getfield 62, 3) := by decide +kernel
theorem dd_R_takeData_35 : decode cc_R_takeData 35 = .ok (.iload_n 1, 1) := by decide +kernel
theorem dd_R_takeData_36 : decode cc_R_takeData 36 = .ok (.iaload, 1) := by decide +kernel
theorem dd_R_takeData_37 : decode cc_R_takeData 37 = .ok (.if_icmp .eq 4, 3) := by decide +kernel
theorem dd_R_takeData_40 : decode cc_R_takeData 40 = .ok (.return_, 1) := by decide +kernel
theorem dd_R_takeData_41 : decode cc_R_takeData 41 = .ok (.aload_n 0, 1) := by decide +kernel
theorem dd_R_takeData_42 : decode cc_R_takeData 42 = .ok (.bipush 23, 2) := by decide +kernel
theorem dd_R_takeData_44 : decode cc_R_takeData 44 = .ok (.bipush 6, 2) := by decide +kernel
theorem dd_R_takeData_46 : decode cc_R_takeData 46 = .ok (.iconst 2, 1) := by decide +kernel
theorem dd_R_takeData_47 : decode cc_R_takeData 47 = .ok (.invokevirtual 221, 3) := by decide +kernel
theorem dd_R_takeData_50 : decode cc_R_takeData 50 = .ok (.aload_n 0, 1) := by decide +kernel
theorem dd_R_takeData_51 : decode cc_R_takeData 51 = .ok (.getfield 68, 3) := by decide +kernel
theorem dd_R_takeData_54 : decode cc_R_takeData 54 = .ok (.iload_n 1, 1) := by decide +kernel
theorem dd_R_takeData_55 : decode cc_R_takeData 55 = .ok (.iaload, 1) := by decide +kernel
theorem dd_R_takeData_56 : decode cc_R_takeData 56 = .ok (.iconst 1, 1) := by decide +kernel
theorem dd_R_takeData_57 : decode cc_R_takeData 57 = .ok (.iadd, 1) := by decide +kernel
theorem dd_R_takeData_58 : decode cc_R_takeData 58 = .ok (.invokestatic 235, 3) := by decide +kernel
theorem dd_R_takeData_61 : decode cc_R_takeData 61 = .ok (.istore_n 3, 1) := by decide +kernel
theorem dd_R_takeData_62 : decode cc_R_takeData 62 = .ok (.aload_n 0, 1) := by decide +kernel
theorem dd_R_takeData_63 : decode cc_R_takeData 63 = .ok (.bipush 23, 2) := by decide +kernel
theorem dd_R_takeData_65 : decode cc_R_takeData 65 = .ok (.aload_n 0, 1) := by decide +kernel
theorem dd_R_takeData_66 : decode cc_R_takeData 66 = .ok (.getfield 37, 3) := by decide +kernel
theorem dd_R_takeData_69 : decode cc_R_takeData 69 = .ok (.bipush 23, 2) := by decide +kernel
theorem dd_R_takeData_71 : decode cc_R_takeData 71 = .ok (.iaload, 1) := by decide +kernel
theorem dd_R_takeData_72 : decode cc_R_takeData 72 = .ok (.iconst 4, 1) := by decide +kernel
theorem dd_R_takeData_73 : decode cc_R_takeData 73 = .ok (.isub, 1) := by decide +kernel
theorem dd_R_takeData_74 : decode cc_R_takeData 74 = .ok (.iconst 3, 1) := by decide +kernel
theorem dd_R_takeData_75 : decode cc_R_takeData 75 = .ok (.iconst 2, 1) := by decide +kernel
theorem dd_R_takeData_76 : decode cc_R_takeData 76 = .ok (.iload_n 1, 1) := by decide +kernel
theorem dd_R_takeData_77 : decode cc_R_takeData 77 = .ok (.imul, 1) := by decide +kernel
theorem dd_R_takeData_78 : decode cc_R_takeData 78 = .ok (.iadd, 1) := by decide +kernel
theorem dd_R_takeData_79 : decode cc_R_takeData 79 = .ok (.iconst 1, 1) := by decide +kernel
theorem dd_R_takeData_80 : decode cc_R_takeData 80 = .ok (.aload_n 0, 1) := by decide +kernel
theorem dd_R_takeData_81 : decode cc_R_takeData 81 = .ok (.getfield 62, 3) := by decide +kernel
theorem dd_R_takeData_84 : decode cc_R_takeData 84 = .ok (.iload_n 1, 1) := by decide +kernel
theorem dd_R_takeData_85 : decode cc_R_takeData 85 = .ok (.iaload, 1) := by decide +kernel
theorem dd_R_takeData_86 : decode cc_R_takeData 86 = .ok (.iload_n 3, 1) := by decide +kernel
theorem dd_R_takeData_87 : decode cc_R_takeData 87 = .ok (.invokevirtual 187, 3) := by decide +kernel
theorem dd_R_takeData_90 : decode cc_R_takeData 90 = .ok (.aload_n 0, 1) := by decide +kernel
theorem dd_R_takeData_91 : decode cc_R_takeData 91 = .ok (.bipush 23, 2) := by decide +kernel
theorem dd_R_takeData_93 : decode cc_R_takeData 93 = .ok (.invokevirtual 225, 3) := by decide +kernel
theorem dd_R_takeData_96 : decode cc_R_takeData 96 = .ok (.ifCond .ne 4, 3) := by decide +kernel
theorem dd_R_takeData_99 : decode cc_R_takeData 99 = .ok (.return_, 1) := by decide +kernel
theorem dd_R_takeData_100 : decode cc_R_takeData 100 = .ok (.aload_n 0, 1) := by decide +kernel
theorem dd_R_takeData_101 : decode cc_R_takeData 101 = .ok (.getfield 68, 3) := by decide +kernel
theorem dd_R_takeData_104 : decode cc_R_takeData 104 = .ok (.iload_n 1, 1) := by decide +kernel
theorem dd_R_takeData_105 : decode cc_R_takeData 105 = .ok (.iload_n 3, 1) := by decide +kernel
theorem dd_R_takeData_106 : decode cc_R_takeData 106 = .ok (.iastore, 1) := by decide +kernel
theorem dd_R_takeData_107 : decode cc_R_takeData 107 = .ok (.iload_n 2, 1) := by decide +kernel
theorem dd_R_takeData_108 : decode cc_R_takeData 108 = .ok (.ifCond .le 39, 3) := by decide +kernel
theorem dd_R_takeData_111 : decode cc_R_takeData 111 = .ok (.aload_n 0, 1) := by decide +kernel
theorem dd_R_takeData_112 : decode cc_R_takeData 112 = .ok (.aload_n 0, 1) := by decide +kernel
theorem dd_R_takeData_113 : decode cc_R_takeData 113 = .ok (.bipush 23, 2) := by decide +kernel
theorem dd_R_takeData_115 : decode cc_R_takeData 115 = .ok (.iload_n 2, 1) := by decide +kernel
theorem dd_R_takeData_116 : decode cc_R_takeData 116 = .ok (.invokevirtual 238, 3) := by decide +kernel
theorem dd_R_takeData_119 : decode cc_R_takeData 119 = .ok (.iload_n 2, 1) := by decide +kernel
theorem dd_R_takeData_120 : decode cc_R_takeData 120 = .ok (.iconst 4, 1) := by decide +kernel
theorem dd_R_takeData_121 : decode cc_R_takeData 121 = .ok (.iconst 2, 1) := by decide +kernel
theorem dd_R_takeData_122 : decode cc_R_takeData 122 = .ok (.iload_n 1, 1) := by decide +kernel
theorem dd_R_takeData_123 : decode cc_R_takeData 123 = .ok (.imul, 1) := by decide +kernel
theorem dd_R_takeData_124 : decode cc_R_takeData 124 = .ok (.iadd, 1) := by decide +kernel
theorem dd_R_takeData_125 : decode cc_R_takeData 125 = .ok (.iconst 1, 1) := by decide +kernel
theorem dd_R_takeData_126 : decode cc_R_takeData 126 = .ok (.aload_n 0, 1) := by decide +kernel
theorem dd_R_takeData_127 : decode cc_R_takeData 127 = .ok (.getfield 62, 3) := by decide +kernel
theorem dd_R_takeData_130 : decode cc_R_takeData 130 = .ok (.iload_n 1, 1) := by decide +kernel
theorem dd_R_takeData_131 : decode cc_R_takeData 131 = .ok (.iaload, 1) := by decide +kernel
theorem dd_R_takeData_132 : decode cc_R_takeData 132 = .ok (.iload_n 3, 1) := by decide +kernel
theorem dd_R_takeData_133 : decode cc_R_takeData 133 = .ok (.invokevirtual 183, 3) := by decide +kernel
theorem dd_R_takeData_136 : decode cc_R_takeData 136 = .ok (.lstore 4, 2) := by decide +kernel
theorem dd_R_takeData_138 : decode cc_R_takeData 138 = .ok (.aload_n 0, 1) := by decide +kernel
theorem dd_R_takeData_139 : decode cc_R_takeData 139 = .ok (.iconst 3, 1) := by decide +kernel
theorem dd_R_takeData_140 : decode cc_R_takeData 140 = .ok (.iload_n 1, 1) := by decide +kernel
theorem dd_R_takeData_141 : decode cc_R_takeData 141 = .ok (.iadd, 1) := by decide +kernel
theorem dd_R_takeData_142 : decode cc_R_takeData 142 = .ok (.lload 4, 2) := by decide +kernel
theorem dd_R_takeData_144 : decode cc_R_takeData 144 = .ok (.invokevirtual 242, 3) := by decide +kernel
theorem dd_R_takeData_147 : decode cc_R_takeData 147 = .ok (.aload_n 0, 1) := by decide +kernel
theorem dd_R_takeData_148 : decode cc_R_takeData 148 = .ok (.bipush 23, 2) := by decide +kernel
theorem dd_R_takeData_150 : decode cc_R_takeData 150 = .ok (.iconst 5, 1) := by decide +kernel
theorem dd_R_takeData_151 : decode cc_R_takeData 151 = .ok (.invokevirtual 158, 3) := by decide +kernel
theorem dd_R_takeData_154 : decode cc_R_takeData 154 = .ok (.istore 4, 2) := by decide +kernel
theorem dd_R_takeData_156 : decode cc_R_takeData 156 = .ok (.iload 4, 2) := by decide +kernel
theorem dd_R_takeData_158 : decode cc_R_takeData 158 = .ok (.bipush 16, 2) := by decide +kernel
theorem dd_R_takeData_160 : decode cc_R_takeData 160 = .ok (.irem, 1) := by decide +kernel
theorem dd_R_takeData_161 : decode cc_R_takeData 161 = .ok (.iconst 3, 1) := by decide +kernel
theorem dd_R_takeData_162 : decode cc_R_takeData 162 = .ok (.if_icmp .ne 33, 3) := by decide +kernel
theorem dd_R_takeData_165 : decode cc_R_takeData 165 = .ok (.aload_n 0, 1) := by decide +kernel
theorem dd_R_takeData_166 : decode cc_R_takeData 166 = .ok (.bipush 23, 2) := by decide +kernel
theorem dd_R_takeData_168 : decode cc_R_takeData 168 = .ok (.bipush 8, 2) := by decide +kernel
theorem dd_R_takeData_170 : decode cc_R_takeData 170 = .ok (.invokevirtual 158, 3) := by decide +kernel
theorem dd_R_takeData_173 : decode cc_R_takeData 173 = .ok (.iconst 2, 1) := by decide +kernel
theorem dd_R_takeData_174 : decode cc_R_takeData 174 = .ok (.if_icmp .ne 21, 3) := by decide +kernel
theorem dd_R_takeData_177 : decode cc_R_takeData 177 = .ok (.aload_n 0, 1) := by decide +kernel
theorem dd_R_takeData_178 : decode cc_R_takeData 178 = .ok (.getfield 117, 3) := by decide +kernel
theorem dd_R_takeData_181 : decode cc_R_takeData 181 = .ok (.iconst 3, 1) := by decide +kernel
theorem dd_R_takeData_182 : decode cc_R_takeData 182 = .ok (.iload_n 1, 1) := by decide +kernel
theorem dd_R_takeData_183 : decode cc_R_takeData 183 = .ok (.imul, 1) := by decide +kernel
theorem dd_R_takeData_184 : decode cc_R_takeData 184 = .ok (.iconst 2, 1) := by decide +kernel
theorem dd_R_takeData_185 : decode cc_R_takeData 185 = .ok (.iadd, 1) := by decide +kernel
theorem dd_R_takeData_186 : decode cc_R_takeData 186 = .ok (.aload_n 0, 1) := by decide +kernel
theorem dd_R_takeData_187 : decode cc_R_takeData 187 = .ok (.bipush 23, 2) := by decide +kernel
theorem dd_R_takeData_189 : decode cc_R_takeData 189 = .ok (.bipush 10, 2) := by decide +kernel
theorem dd_R_takeData_191 : decode cc_R_takeData 191 = .ok (.invokevirtual 158, 3) := by decide +kernel
theorem dd_R_takeData_194 : decode cc_R_takeData 194 = .ok (.iastore, 1) := by decide +kernel
theorem dd_R_takeData_195 : decode cc_R_takeData 195 = .ok (.iload 4, 2) := by decide +kernel
theorem dd_R_takeData_197 : decode cc_R_takeData 197 = .ok (.bipush 32, 2) := by decide +kernel
theorem dd_R_takeData_199 : decode cc_R_takeData 199 = .ok (.iand, 1) := by decide +kernel
theorem dd_R_takeData_200 : decode cc_R_takeData 200 = .ok (.ifCond .eq 7, 3) := by decide +kernel
theorem dd_R_takeData_203 : decode cc_R_takeData 203 = .ok (.iconst 1, 1) := by decide +kernel
theorem dd_R_takeData_204 : decode cc_R_takeData 204 = .ok (.goto 4, 3) := by decide +kernel
theorem dd_R_takeData_207 : decode cc_R_takeData 207 = .ok (.iconst 0, 1) := by decide +kernel
theorem dd_R_takeData_208 : decode cc_R_takeData 208 = .ok (.istore 5, 2) := by decide +kernel
theorem dd_R_takeData_210 : decode cc_R_takeData 210 = .ok (.aload_n 0, 1) := by decide +kernel
theorem dd_R_takeData_211 : decode cc_R_takeData 211 = .ok (.iload_n 1, 1) := by decide +kernel
theorem dd_R_takeData_212 : decode cc_R_takeData 212 = .ok (.invokevirtual 217, 3) := by decide +kernel
theorem dd_R_takeData_215 : decode cc_R_takeData 215 = .ok (.ifCond .eq 20, 3) := by decide +kernel
theorem dd_R_takeData_218 : decode cc_R_takeData 218 = .ok (.iload 5, 2) := by decide +kernel
theorem dd_R_takeData_220 : decode cc_R_takeData 220 = .ok (.ifCond .eq 15, 3) := by decide +kernel
theorem dd_R_takeData_223 : decode cc_R_takeData 223 = .ok (.aload_n 0, 1) := by decide +kernel
theorem dd_R_takeData_224 : decode cc_R_takeData 224 = .ok (.getfield 117, 3) := by decide +kernel
theorem dd_R_takeData_227 : decode cc_R_takeData 227 = .ok (.iconst 3, 1) := by decide +kernel
theorem dd_R_takeData_228 : decode cc_R_takeData 228 = .ok (.iload_n 1, 1) := by decide +kernel
theorem dd_R_takeData_229 : decode cc_R_takeData 229 = .ok (.imul, 1) := by decide +kernel
theorem dd_R_takeData_230 : decode cc_R_takeData 230 = .ok (.dup2, 1) := by decide +kernel
theorem dd_R_takeData_231 : decode cc_R_takeData 231 = .ok (.iaload, 1) := by decide +kernel
theorem dd_R_takeData_232 : decode cc_R_takeData 232 = .ok (.iconst 1, 1) := by decide +kernel
theorem dd_R_takeData_233 : decode cc_R_takeData 233 = .ok (.iadd, 1) := by decide +kernel
theorem dd_R_takeData_234 : decode cc_R_takeData 234 = .ok (.iastore, 1) := by decide +kernel
theorem dd_R_takeData_235 : decode cc_R_takeData 235 = .ok (.aload_n 0, 1) := by decide +kernel
theorem dd_R_takeData_236 : decode cc_R_takeData 236 = .ok (.getfield 46, 3) := by decide +kernel
theorem dd_R_takeData_239 : decode cc_R_takeData 239 = .ok (.iload_n 1, 1) := by decide +kernel
theorem dd_R_takeData_240 : decode cc_R_takeData 240 = .ok (.aload_n 0, 1) := by decide +kernel
theorem dd_R_takeData_241 : decode cc_R_takeData 241 = .ok (.iload_n 1, 1) := by decide +kernel
theorem dd_R_takeData_242 : decode cc_R_takeData 242 = .ok (.invokevirtual 217, 3) := by decide +kernel
theorem dd_R_takeData_245 : decode cc_R_takeData 245 = .ok (.ifCond .eq 12, 3) := by decide +kernel
theorem dd_R_takeData_248 : decode cc_R_takeData 248 = .ok (.iload 5, 2) := by decide +kernel
theorem dd_R_takeData_250 : decode cc_R_takeData 250 = .ok (.ifCond .ne 7, 3) := by decide +kernel
theorem dd_R_takeData_253 : decode cc_R_takeData 253 = .ok (.iconst 1, 1) := by decide +kernel
theorem dd_R_takeData_254 : decode cc_R_takeData 254 = .ok (.goto 4, 3) := by decide +kernel
theorem dd_R_takeData_257 : decode cc_R_takeData 257 = .ok (.iconst 0, 1) := by decide +kernel
theorem dd_R_takeData_258 : decode cc_R_takeData 258 = .ok (.bastore, 1) := by decide +kernel
theorem dd_R_takeData_259 : decode cc_R_takeData 259 = .ok (.return_, 1) := by decide +kernel
theorem dd_R_reach_0 : decode cc_R_reach 0 = .ok (.iload_n 1, 1) := by decide +kernel
theorem dd_R_reach_1 : decode cc_R_reach 1 = .ok (.aload_n 0, 1) := by decide +kernel
theorem dd_R_reach_2 : decode cc_R_reach 2 = .ok (.getfield 168, 3) := by decide +kernel
theorem dd_R_reach_5 : decode cc_R_reach 5 = .ok (.invokestatic 197, 3) := by decide +kernel
theorem dd_R_reach_8 : decode cc_R_reach 8 = .ok (.ifCond .eq 13, 3) := by decide +kernel
theorem dd_R_reach_11 : decode cc_R_reach 11 = .ok (.aload_n 0, 1) := by decide +kernel
theorem dd_R_reach_12 : decode cc_R_reach 12 = .ok (.getfield 40, 3) := by decide +kernel
theorem dd_R_reach_15 : decode cc_R_reach 15 = .ok (.iload_n 1, 1) := by decide +kernel
theorem dd_R_reach_16 : decode cc_R_reach 16 = .ok (.iaload, 1) := by decide +kernel
theorem dd_R_reach_17 : decode cc_R_reach 17 = .ok (.iconst 3, 1) := by decide +kernel
theorem dd_R_reach_18 : decode cc_R_reach 18 = .ok (.if_icmp .ne 5, 3) := by decide +kernel
theorem dd_R_reach_21 : decode cc_R_reach 21 = .ok (.iconst 0, 1) := by decide +kernel
theorem dd_R_reach_22 : decode cc_R_reach 22 = .ok (.ireturn, 1) := by decide +kernel
theorem dd_R_reach_23 : decode cc_R_reach 23 = .ok (.aload_n 0, 1) := by decide +kernel
theorem dd_R_reach_24 : decode cc_R_reach 24 = .ok (.getfield 40, 3) := by decide +kernel
theorem dd_R_reach_27 : decode cc_R_reach 27 = .ok (.iload_n 1, 1) := by decide +kernel
theorem dd_R_reach_28 : decode cc_R_reach 28 = .ok (.iaload, 1) := by decide +kernel
theorem dd_R_reach_29 : decode cc_R_reach 29 = .ok (.istore_n 2, 1) := by decide +kernel
theorem dd_R_reach_30 : decode cc_R_reach 30 = .ok (.aload_n 0, 1) := by decide +kernel
theorem dd_R_reach_31 : decode cc_R_reach 31 = .ok (.iload_n 1, 1) := by decide +kernel
theorem dd_R_reach_32 : decode cc_R_reach 32 = .ok (.bipush 23, 2) := by decide +kernel
theorem dd_R_reach_34 : decode cc_R_reach 34 = .ok (.invokevirtual 165, 3) := by decide +kernel
theorem dd_R_reach_37 : decode cc_R_reach 37 = .ok (.aload_n 0, 1) := by decide +kernel
theorem dd_R_reach_38 : decode cc_R_reach 38 = .ok (.iload_n 1, 1) := by decide +kernel
theorem dd_R_reach_39 : decode cc_R_reach 39 = .ok (.invokevirtual 246, 3) := by decide +kernel
theorem dd_R_reach_42 : decode cc_R_reach 42 = .ok (.aload_n 0, 1) := by decide +kernel
theorem dd_R_reach_43 : decode cc_R_reach 43 = .ok (.getfield 46, 3) := by decide +kernel
theorem dd_R_reach_46 : decode cc_R_reach 46 = .ok (.iload_n 2, 1) := by decide +kernel
theorem dd_R_reach_47 : decode cc_R_reach 47 = .ok (.baload, 1) := by decide +kernel
theorem dd_R_reach_48 : decode cc_R_reach 48 = .ok (.ifCond .eq 37, 3) := by decide +kernel
theorem dd_R_reach_51 : decode cc_R_reach 51 = .ok (.aload_n 0, 1) := by decide +kernel
theorem dd_R_reach_52 : decode cc_R_reach 52 = .ok (.getfield 191, 3) := by decide +kernel
theorem dd_R_reach_55 : decode cc_R_reach 55 = .ok (.aload_n 0, 1) := by decide +kernel
theorem dd_R_reach_56 : decode cc_R_reach 56 = .ok (.getfield 50, 3) := by decide +kernel
theorem dd_R_reach_59 : decode cc_R_reach 59 = .ok (.iload_n 2, 1) := by decide +kernel
theorem dd_R_reach_60 : decode cc_R_reach 60 = .ok (.iaload, 1) := by decide +kernel
theorem dd_R_reach_61 : decode cc_R_reach 61 = .ok (.iconst 1, 1) := by decide +kernel
theorem dd_R_reach_62 : decode cc_R_reach 62 = .ok (.iadd, 1) := by decide +kernel
theorem dd_R_reach_63 : decode cc_R_reach 63 = .ok (.if_icmp .eq 18, 3) := by decide +kernel
theorem dd_R_reach_66 : decode cc_R_reach 66 = .ok (.aload_n 0, 1) := by decide +kernel
theorem dd_R_reach_67 : decode cc_R_reach 67 = .ok (.getfield 191, 3) := by decide +kernel
theorem dd_R_reach_70 : decode cc_R_reach 70 = .ok (.aload_n 0, 1) := by decide +kernel
theorem dd_R_reach_71 : decode cc_R_reach 71 = .ok (.getfield 50, 3) := by decide +kernel
theorem dd_R_reach_74 : decode cc_R_reach 74 = .ok (.iload_n 2, 1) := by decide +kernel
theorem dd_R_reach_75 : decode cc_R_reach 75 = .ok (.iaload, 1) := by decide +kernel
theorem dd_R_reach_76 : decode cc_R_reach 76 = .ok (.iconst 2, 1) := by decide +kernel
theorem dd_R_reach_77 : decode cc_R_reach 77 = .ok (.iadd, 1) := by decide +kernel
theorem dd_R_reach_78 : decode cc_R_reach 78 = .ok (.if_icmp .ne 7, 3) := by decide +kernel
theorem dd_R_reach_81 : decode cc_R_reach 81 = .ok (.iconst 1, 1) := by decide +kernel
theorem dd_R_reach_82 : decode cc_R_reach 82 = .ok (.goto 4, 3) := by decide +kernel
theorem dd_R_reach_85 : decode cc_R_reach 85 = .ok (.iconst 0, 1) := by decide +kernel
theorem dd_R_reach_86 : decode cc_R_reach 86 = .ok (.istore_n 3, 1) := by decide +kernel
theorem dd_R_reach_87 : decode cc_R_reach 87 = .ok (.iload_n 3, 1) := by decide +kernel
theorem dd_R_reach_88 : decode cc_R_reach 88 = .ok (.ifCond .eq 21, 3) := by decide +kernel
theorem dd_R_reach_91 : decode cc_R_reach 91 = .ok (.aload_n 0, 1) := by decide +kernel
theorem dd_R_reach_92 : decode cc_R_reach 92 = .ok (.getfield 43, 3) := by decide +kernel
theorem dd_R_reach_95 : decode cc_R_reach 95 = .ok (.iload_n 2, 1) := by decide +kernel
theorem dd_R_reach_96 : decode cc_R_reach 96 = .ok (.iaload, 1) := by decide +kernel
theorem dd_R_reach_97 : decode cc_R_reach 97 = .ok (.iconst 1, 1) := by decide +kernel
theorem dd_R_reach_98 : decode cc_R_reach 98 = .ok (.if_icmp .ne 11, 3) := by decide +kernel
theorem dd_R_reach_101 : decode cc_R_reach 101 = .ok (.aload_n 0, 1) := by decide +kernel
theorem dd_R_reach_102 : decode cc_R_reach 102 = .ok (.iload_n 2, 1) := by decide +kernel
theorem dd_R_reach_103 : decode cc_R_reach 103 = .ok (.invokevirtual 249, 3) := by decide +kernel
theorem dd_R_reach_106 : decode cc_R_reach 106 = .ok (.goto 22, 3) := by decide +kernel
theorem dd_R_reach_109 : decode cc_R_reach 109 = .ok (.iload_n 3, 1) := by decide +kernel
theorem dd_R_reach_110 : decode cc_R_reach 110 = .ok (.ifCond .eq 18, 3) := by decide +kernel
theorem dd_R_reach_113 : decode cc_R_reach 113 = .ok (.aload_n 0, 1) := by decide +kernel
theorem dd_R_reach_114 : decode cc_R_reach 114 = .ok (.getfield 43, 3) := by decide +kernel
theorem dd_R_reach_117 : decode cc_R_reach 117 = .ok (.iload_n 2, 1) := by decide +kernel
theorem dd_R_reach_118 : decode cc_R_reach 118 = .ok (.iaload, 1) := by decide +kernel
theorem dd_R_reach_119 : decode cc_R_reach 119 = .ok (.iconst 2, 1) := by decide +kernel
theorem dd_R_reach_120 : decode cc_R_reach 120 = .ok (.if_icmp .ne 8, 3) := by decide +kernel
theorem dd_R_reach_123 : decode cc_R_reach 123 = .ok (.aload_n 0, 1) := by decide +kernel
theorem dd_R_reach_124 : decode cc_R_reach 124 = .ok (.iload_n 2, 1) := by decide +kernel
theorem dd_R_reach_125 : decode cc_R_reach 125 = .ok (.invokevirtual 252, 3) := by decide +kernel
theorem dd_R_reach_128 : decode cc_R_reach 128 = .ok (.iconst 1, 1) := by decide +kernel
theorem dd_R_reach_129 : decode cc_R_reach 129 = .ok (.ireturn, 1) := by decide +kernel
theorem dd_R_queue_0 : decode cc_R_queue 0 = .ok (.iload_n 1, 1) := by decide +kernel
theorem dd_R_queue_1 : decode cc_R_queue 1 = .ok (.iconst 3, 1) := by decide +kernel
theorem dd_R_queue_2 : decode cc_R_queue 2 = .ok (.invokestatic 197, 3) := by decide +kernel
theorem dd_R_queue_5 : decode cc_R_queue 5 = .ok (.ifCond .eq 26, 3) := by decide +kernel
theorem dd_R_queue_8 : decode cc_R_queue 8 = .ok (.iload 4, 2) := by decide +kernel
theorem dd_R_queue_10 : decode cc_R_queue 10 = .ok (.iconst 1, 1) := by decide +kernel
theorem dd_R_queue_11 : decode cc_R_queue 11 = .ok (.if_icmp .lt 20, 3) := by decide +kernel
theorem dd_R_queue_14 : decode cc_R_queue 14 = .ok (.iload 4, 2) := by decide +kernel
theorem dd_R_queue_16 : decode cc_R_queue 16 = .ok (.bipush 8, 2) := by decide +kernel
theorem dd_R_queue_18 : decode cc_R_queue 18 = .ok (.if_icmp .gt 13, 3) := by decide +kernel
theorem dd_R_queue_21 : decode cc_R_queue 21 = .ok (.aload_n 0, 1) := by decide +kernel
theorem dd_R_queue_22 : decode cc_R_queue 22 = .ok (.getfield 108, 3) := by decide +kernel
theorem dd_R_queue_25 : decode cc_R_queue 25 = .ok (.iload_n 1, 1) := by decide +kernel
theorem dd_R_queue_26 : decode cc_R_queue 26 = .ok (.iaload, 1) := by decide +kernel
theorem dd_R_queue_27 : decode cc_R_queue 27 = .ok (.iconst 4, 1) := by decide +kernel
theorem dd_R_queue_28 : decode cc_R_queue 28 = .ok (.if_icmp .ne 5, 3) := by decide +kernel
theorem dd_R_queue_31 : decode cc_R_queue 31 = .ok (.iconst (-1), 1) := by decide +kernel
theorem dd_R_queue_32 : decode cc_R_queue 32 = .ok (.ireturn, 1) := by decide +kernel
theorem dd_R_queue_33 : decode cc_R_queue 33 = .ok (.aload_n 0, 1) := by decide +kernel
theorem dd_R_queue_34 : decode cc_R_queue 34 = .ok (.getfield 101, 3) := by decide +kernel
theorem dd_R_queue_37 : decode cc_R_queue 37 = .ok (.iconst 4, 1) := by decide +kernel
theorem dd_R_queue_38 : decode cc_R_queue 38 = .ok (.iload_n 1, 1) := by decide +kernel
theorem dd_R_queue_39 : decode cc_R_queue 39 = .ok (.imul, 1) := by decide +kernel
theorem dd_R_queue_40 : decode cc_R_queue 40 = .ok (.aload_n 0, 1) := by decide +kernel
theorem dd_R_queue_41 : decode cc_R_queue 41 = .ok (.getfield 108, 3) := by decide +kernel
theorem dd_R_queue_44 : decode cc_R_queue 44 = .ok (.iload_n 1, 1) := by decide +kernel
theorem dd_R_queue_45 : decode cc_R_queue 45 = .ok (.iaload, 1) := by decide +kernel
theorem dd_R_queue_46 : decode cc_R_queue 46 = .ok (.iadd, 1) := by decide +kernel
theorem dd_R_queue_47 : decode cc_R_queue 47 = .ok (.lload_n 2, 1) := by decide +kernel
theorem dd_R_queue_48 : decode cc_R_queue 48 = .ok (.lastore, 1) := by decide +kernel
theorem dd_R_queue_49 : decode cc_R_queue 49 = .ok (.aload_n 0, 1) := by decide +kernel
theorem dd_R_queue_50 : decode cc_R_queue 50 = .ok (.getfield 105, 3) := by decide +kernel
theorem dd_R_queue_53 : decode cc_R_queue 53 = .ok (.iconst 4, 1) := by decide +kernel
theorem dd_R_queue_54 : decode cc_R_queue 54 = .ok (.iload_n 1, 1) := by decide +kernel
theorem dd_R_queue_55 : decode cc_R_queue 55 = .ok (.imul, 1) := by decide +kernel
theorem dd_R_queue_56 : decode cc_R_queue 56 = .ok (.aload_n 0, 1) := by decide +kernel
theorem dd_R_queue_57 : decode cc_R_queue 57 = .ok (.getfield 108, 3) := by decide +kernel
theorem dd_R_queue_60 : decode cc_R_queue 60 = .ok (.iload_n 1, 1) := by decide +kernel
theorem dd_R_queue_61 : decode cc_R_queue 61 = .ok (.iaload, 1) := by decide +kernel
theorem dd_R_queue_62 : decode cc_R_queue 62 = .ok (.iadd, 1) := by decide +kernel
theorem dd_R_queue_63 : decode cc_R_queue 63 = .ok (.iload 4, 2) := by decide +kernel
theorem dd_R_queue_65 : decode cc_R_queue 65 = .ok (.iastore, 1) := by decide +kernel
theorem dd_R_queue_66 : decode cc_R_queue 66 = .ok (.aload_n 0, 1) := by decide +kernel
theorem dd_R_queue_67 : decode cc_R_queue 67 = .ok (.getfield 108, 3) := by decide +kernel
theorem dd_R_queue_70 : decode cc_R_queue 70 = .ok (.iload_n 1, 1) := by decide +kernel
theorem dd_R_queue_71 : decode cc_R_queue 71 = .ok (.dup2, 1) := by decide +kernel
theorem dd_R_queue_72 : decode cc_R_queue 72 = .ok (.iaload, 1) := by decide +kernel
theorem dd_R_queue_73 : decode cc_R_queue 73 = .ok (.iconst 1, 1) := by decide +kernel
theorem dd_R_queue_74 : decode cc_R_queue 74 = .ok (.iadd, 1) := by decide +kernel
theorem dd_R_queue_75 : decode cc_R_queue 75 = .ok (.iastore, 1) := by decide +kernel
theorem dd_R_queue_76 : decode cc_R_queue 76 = .ok (.aload_n 0, 1) := by decide +kernel
theorem dd_R_queue_77 : decode cc_R_queue 77 = .ok (.getfield 108, 3) := by decide +kernel
theorem dd_R_queue_80 : decode cc_R_queue 80 = .ok (.iload_n 1, 1) := by decide +kernel
theorem dd_R_queue_81 : decode cc_R_queue 81 = .ok (.iaload, 1) := by decide +kernel
theorem dd_R_queue_82 : decode cc_R_queue 82 = .ok (.ireturn, 1) := by decide +kernel
