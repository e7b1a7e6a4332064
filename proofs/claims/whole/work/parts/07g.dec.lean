theorem dd_R_zeros_0 : decode cc_R_zeros 0 = .ok (.iconst 1, 1) := by decide +kernel
theorem dd_R_zeros_1 : decode cc_R_zeros 1 = .ok (.istore 4, 2) := by decide +kernel
theorem dd_R_zeros_3 : decode cc_R_zeros 3 = .ok (.iload_n 2, 1) := by decide +kernel
theorem dd_R_zeros_4 : decode cc_R_zeros 4 = .ok (.istore 5, 2) := by decide +kernel
theorem dd_R_zeros_6 : decode cc_R_zeros 6 = .ok (.iload 5, 2) := by decide +kernel
theorem dd_R_zeros_8 : decode cc_R_zeros 8 = .ok (.iload_n 3, 1) := by decide +kernel
theorem dd_R_zeros_9 : decode cc_R_zeros 9 = .ok (.if_icmp .ge 31, 3) := by decide +kernel
theorem dd_R_zeros_12 : decode cc_R_zeros 12 = .ok (.iload 4, 2) := by decide +kernel
theorem dd_R_zeros_14 : decode cc_R_zeros 14 = .ok (.ifCond .eq 17, 3) := by decide +kernel
theorem dd_R_zeros_17 : decode cc_R_zeros 17 = .ok (.aload_n 0, 1) := by decide +kernel
theorem dd_R_zeros_18 : decode cc_R_zeros 18 = .ok (.iload_n 1, 1) := by decide +kernel
theorem dd_R_zeros_19 : decode cc_R_zeros 19 = .ok (.iload 5, 2) := by decide +kernel
theorem dd_R_zeros_21 : decode cc_R_zeros 21 = .ok (.invokevirtual 158, 3) := by decide +kernel
theorem dd_R_zeros_24 : decode cc_R_zeros 24 = .ok (.ifCond .ne 7, 3) := by decide +kernel
theorem dd_R_zeros_27 : decode cc_R_zeros 27 = .ok (.iconst 1, 1) := by decide +kernel
theorem dd_R_zeros_28 : decode cc_R_zeros 28 = .ok (.goto 4, 3) := by decide +kernel
theorem dd_R_zeros_31 : decode cc_R_zeros 31 = .ok (.iconst 0, 1) := by decide +kernel
theorem dd_R_zeros_32 : decode cc_R_zeros 32 = .ok (.istore 4, 2) := by decide +kernel
theorem dd_R_zeros_34 : decode cc_R_zeros 34 = .ok (.iinc 5 1, 3) := by decide +kernel
theorem dd_R_zeros_37 : decode cc_R_zeros 37 = .ok (.goto (-31), 3) := by decide +kernel
theorem dd_R_zeros_40 : decode cc_R_zeros 40 = .ok (.iload 4, 2) := by decide +kernel
theorem dd_R_zeros_42 : decode cc_R_zeros 42 = .ok (.ireturn, 1) := by decide +kernel
theorem dd_R_heardJoin_0 : decode cc_R_heardJoin 0 = .ok (.aload_n 0, 1) := by decide +kernel
theorem dd_R_heardJoin_1 : decode cc_R_heardJoin 1 = .ok (.bipush 23, 2) := by decide +kernel
theorem dd_R_heardJoin_3 : decode cc_R_heardJoin 3 = .ok (.bipush 9, 2) := by decide +kernel
theorem dd_R_heardJoin_5 : decode cc_R_heardJoin 5 = .ok (.invokevirtual 158, 3) := by decide +kernel
theorem dd_R_heardJoin_8 : decode cc_R_heardJoin 8 = .ok (.istore_n 1, 1) := by decide +kernel
theorem dd_R_heardJoin_9 : decode cc_R_heardJoin 9 = .ok (.aload_n 0, 1) := by decide +kernel
theorem dd_R_heardJoin_10 : decode cc_R_heardJoin 10 = .ok (.getfield 37, 3) := by decide +kernel
theorem dd_R_heardJoin_13 : decode cc_R_heardJoin 13 = .ok (.bipush 23, 2) := by decide +kernel
theorem dd_R_heardJoin_15 : decode cc_R_heardJoin 15 = .ok (.iaload, 1) := by decide +kernel
theorem dd_R_heardJoin_16 : decode cc_R_heardJoin 16 = .ok (.bipush 23, 2) := by decide +kernel
theorem dd_R_heardJoin_18 : decode cc_R_heardJoin 18 = .ok (.if_icmp .ne 33, 3) := by decide +kernel
theorem dd_R_heardJoin_21 : decode cc_R_heardJoin 21 = .ok (.aload_n 0, 1) := by decide +kernel
theorem dd_R_heardJoin_22 : decode cc_R_heardJoin 22 = .ok (.bipush 23, 2) := by decide +kernel
theorem dd_R_heardJoin_24 : decode cc_R_heardJoin 24 = .ok (.iconst 1, 1) := by decide +kernel
theorem dd_R_heardJoin_25 : decode cc_R_heardJoin 25 = .ok (.bipush 9, 2) := by decide +kernel
theorem dd_R_heardJoin_27 : decode cc_R_heardJoin 27 = .ok (.invokevirtual 255, 3) := by decide +kernel
theorem dd_R_heardJoin_30 : decode cc_R_heardJoin 30 = .ok (.ifCond .eq 21, 3) := by decide +kernel
theorem dd_R_heardJoin_33 : decode cc_R_heardJoin 33 = .ok (.iload_n 1, 1) := by decide +kernel
theorem dd_R_heardJoin_34 : decode cc_R_heardJoin 34 = .ok (.iconst 2, 1) := by decide +kernel
theorem dd_R_heardJoin_35 : decode cc_R_heardJoin 35 = .ok (.if_icmp .gt 16, 3) := by decide +kernel
theorem dd_R_heardJoin_38 : decode cc_R_heardJoin 38 = .ok (.aload_n 0, 1) := by decide +kernel
theorem dd_R_heardJoin_39 : decode cc_R_heardJoin 39 = .ok (.bipush 23, 2) := by decide +kernel
theorem dd_R_heardJoin_41 : decode cc_R_heardJoin 41 = .ok (.bipush 10, 2) := by decide +kernel
theorem dd_R_heardJoin_43 : decode cc_R_heardJoin 43 = .ok (.bipush 17, 2) := by decide +kernel
theorem dd_R_heardJoin_45 : decode cc_R_heardJoin 45 = .ok (.invokevirtual 255, 3) := by decide +kernel
theorem dd_R_heardJoin_48 : decode cc_R_heardJoin 48 = .ok (.ifCond .ne 4, 3) := by decide +kernel
theorem dd_R_heardJoin_51 : decode cc_R_heardJoin 51 = .ok (.return_, 1) := by decide +kernel
theorem dd_R_heardJoin_52 : decode cc_R_heardJoin 52 = .ok (.aload_n 0, 1) := by decide +kernel
theorem dd_R_heardJoin_53 : decode cc_R_heardJoin 53 = .ok (.bipush 23, 2) := by decide +kernel
theorem dd_R_heardJoin_55 : decode cc_R_heardJoin 55 = .ok (.bipush 19, 2) := by decide +kernel
theorem dd_R_heardJoin_57 : decode cc_R_heardJoin 57 = .ok (.iload_n 1, 1) := by decide +kernel
theorem dd_R_heardJoin_58 : decode cc_R_heardJoin 58 = .ok (.invokevirtual 202, 3) := by decide +kernel
theorem dd_R_heardJoin_61 : decode cc_R_heardJoin 61 = .ok (.aload_n 0, 1) := by decide +kernel
theorem dd_R_heardJoin_62 : decode cc_R_heardJoin 62 = .ok (.bipush 23, 2) := by decide +kernel
theorem dd_R_heardJoin_64 : decode cc_R_heardJoin 64 = .ok (.bipush 17, 2) := by decide +kernel
theorem dd_R_heardJoin_66 : decode cc_R_heardJoin 66 = .ok (.iconst 2, 1) := by decide +kernel
theorem dd_R_heardJoin_67 : decode cc_R_heardJoin 67 = .ok (.invokevirtual 221, 3) := by decide +kernel
theorem dd_R_heardJoin_70 : decode cc_R_heardJoin 70 = .ok (.istore_n 2, 1) := by decide +kernel
theorem dd_R_heardJoin_71 : decode cc_R_heardJoin 71 = .ok (.aload_n 0, 1) := by decide +kernel
theorem dd_R_heardJoin_72 : decode cc_R_heardJoin 72 = .ok (.bipush 23, 2) := by decide +kernel
theorem dd_R_heardJoin_74 : decode cc_R_heardJoin 74 = .ok (.invokevirtual 225, 3) := by decide +kernel
theorem dd_R_heardJoin_77 : decode cc_R_heardJoin 77 = .ok (.ifCond .eq 13, 3) := by decide +kernel
theorem dd_R_heardJoin_80 : decode cc_R_heardJoin 80 = .ok (.iload_n 2, 1) := by decide +kernel
theorem dd_R_heardJoin_81 : decode cc_R_heardJoin 81 = .ok (.aload_n 0, 1) := by decide +kernel
theorem dd_R_heardJoin_82 : decode cc_R_heardJoin 82 = .ok (.getfield 86, 3) := by decide +kernel
theorem dd_R_heardJoin_85 : decode cc_R_heardJoin 85 = .ok (.iload_n 1, 1) := by decide +kernel
theorem dd_R_heardJoin_86 : decode cc_R_heardJoin 86 = .ok (.iaload, 1) := by decide +kernel
theorem dd_R_heardJoin_87 : decode cc_R_heardJoin 87 = .ok (.if_icmp .gt 4, 3) := by decide +kernel
theorem dd_R_heardJoin_90 : decode cc_R_heardJoin 90 = .ok (.return_, 1) := by decide +kernel
theorem dd_R_heardJoin_91 : decode cc_R_heardJoin 91 = .ok (.aload_n 0, 1) := by decide +kernel
theorem dd_R_heardJoin_92 : decode cc_R_heardJoin 92 = .ok (.getfield 86, 3) := by decide +kernel
theorem dd_R_heardJoin_95 : decode cc_R_heardJoin 95 = .ok (.iload_n 1, 1) := by decide +kernel
theorem dd_R_heardJoin_96 : decode cc_R_heardJoin 96 = .ok (.iload_n 2, 1) := by decide +kernel
theorem dd_R_heardJoin_97 : decode cc_R_heardJoin 97 = .ok (.iastore, 1) := by decide +kernel
theorem dd_R_heardJoin_98 : decode cc_R_heardJoin 98 = .ok (.aload_n 0, 1) := by decide +kernel
theorem dd_R_heardJoin_99 : decode cc_R_heardJoin 99 = .ok (.dup, 1) := by decide +kernel
theorem dd_R_heardJoin_100 : decode cc_R_heardJoin 100 = .ok (.getfield 259, 3) := by decide +kernel
theorem dd_R_heardJoin_103 : decode cc_R_heardJoin 103 = .ok (.iconst 1, 1) := by decide +kernel
theorem dd_R_heardJoin_104 : decode cc_R_heardJoin 104 = .ok (.iadd, 1) := by decide +kernel
theorem dd_R_heardJoin_105 : decode cc_R_heardJoin 105 = .ok (.putfield 259, 3) := by decide +kernel
theorem dd_R_heardJoin_108 : decode cc_R_heardJoin 108 = .ok (.aload_n 0, 1) := by decide +kernel
theorem dd_R_heardJoin_109 : decode cc_R_heardJoin 109 = .ok (.getfield 71, 3) := by decide +kernel
theorem dd_R_heardJoin_112 : decode cc_R_heardJoin 112 = .ok (.iload_n 1, 1) := by decide +kernel
theorem dd_R_heardJoin_113 : decode cc_R_heardJoin 113 = .ok (.dup2, 1) := by decide +kernel
theorem dd_R_heardJoin_114 : decode cc_R_heardJoin 114 = .ok (.iaload, 1) := by decide +kernel
theorem dd_R_heardJoin_115 : decode cc_R_heardJoin 115 = .ok (.iconst 1, 1) := by decide +kernel
theorem dd_R_heardJoin_116 : decode cc_R_heardJoin 116 = .ok (.iadd, 1) := by decide +kernel
theorem dd_R_heardJoin_117 : decode cc_R_heardJoin 117 = .ok (.iastore, 1) := by decide +kernel
theorem dd_R_heardJoin_118 : decode cc_R_heardJoin 118 = .ok (.aload_n 0, 1) := by decide +kernel
theorem dd_R_heardJoin_119 : decode cc_R_heardJoin 119 = .ok (.getfield 77, 3) := by decide +kernel
theorem dd_R_heardJoin_122 : decode cc_R_heardJoin 122 = .ok (.iload_n 1, 1) := by decide +kernel
theorem dd_R_heardJoin_123 : decode cc_R_heardJoin 123 = .ok (.aload_n 0, 1) := by decide +kernel
theorem dd_R_heardJoin_124 : decode cc_R_heardJoin 124 = .ok (.getfield 259, 3) := by decide +kernel
theorem dd_R_heardJoin_127 : decode cc_R_heardJoin 127 = .ok (.iastore, 1) := by decide +kernel
theorem dd_R_heardJoin_128 : decode cc_R_heardJoin 128 = .ok (.aload_n 0, 1) := by decide +kernel
theorem dd_R_heardJoin_129 : decode cc_R_heardJoin 129 = .ok (.getfield 74, 3) := by decide +kernel
theorem dd_R_heardJoin_132 : decode cc_R_heardJoin 132 = .ok (.iload_n 1, 1) := by decide +kernel
theorem dd_R_heardJoin_133 : decode cc_R_heardJoin 133 = .ok (.iload_n 1, 1) := by decide +kernel
theorem dd_R_heardJoin_134 : decode cc_R_heardJoin 134 = .ok (.iconst 1, 1) := by decide +kernel
theorem dd_R_heardJoin_135 : decode cc_R_heardJoin 135 = .ok (.iadd, 1) := by decide +kernel
theorem dd_R_heardJoin_136 : decode cc_R_heardJoin 136 = .ok (.aload_n 0, 1) := by decide +kernel
theorem dd_R_heardJoin_137 : decode cc_R_heardJoin 137 = .ok (.getfield 71, 3) := by decide +kernel
theorem dd_R_heardJoin_140 : decode cc_R_heardJoin 140 = .ok (.iload_n 1, 1) := by decide +kernel
theorem dd_R_heardJoin_141 : decode cc_R_heardJoin 141 = .ok (.iaload, 1) := by decide +kernel
theorem dd_R_heardJoin_142 : decode cc_R_heardJoin 142 = .ok (.sipush 256, 3) := by decide +kernel
theorem dd_R_heardJoin_145 : decode cc_R_heardJoin 145 = .ok (.irem, 1) := by decide +kernel
theorem dd_R_heardJoin_146 : decode cc_R_heardJoin 146 = .ok (.bipush 8, 2) := by decide +kernel
theorem dd_R_heardJoin_148 : decode cc_R_heardJoin 148 = .ok (.ishl, 1) := by decide +kernel
theorem dd_R_heardJoin_149 : decode cc_R_heardJoin 149 = .ok (.iadd, 1) := by decide +kernel
theorem dd_R_heardJoin_150 : decode cc_R_heardJoin 150 = .ok (.ldc_w 262, 3) := by decide +kernel
theorem dd_R_heardJoin_153 : decode cc_R_heardJoin 153 = .ok (.iadd, 1) := by decide +kernel
theorem dd_R_heardJoin_154 : decode cc_R_heardJoin 154 = .ok (.iastore, 1) := by decide +kernel
theorem dd_R_heardJoin_155 : decode cc_R_heardJoin 155 = .ok (.aload_n 0, 1) := by decide +kernel
theorem dd_R_heardJoin_156 : decode cc_R_heardJoin 156 = .ok (.iload_n 1, 1) := by decide +kernel
theorem dd_R_heardJoin_157 : decode cc_R_heardJoin 157 = .ok (.aload_n 0, 1) := by decide +kernel
theorem dd_R_heardJoin_158 : decode cc_R_heardJoin 158 = .ok (.getfield 259, 3) := by decide +kernel
theorem dd_R_heardJoin_161 : decode cc_R_heardJoin 161 = .ok (.iload_n 2, 1) := by decide +kernel
theorem dd_R_heardJoin_162 : decode cc_R_heardJoin 162 = .ok (.bipush 9, 2) := by decide +kernel
theorem dd_R_heardJoin_164 : decode cc_R_heardJoin 164 = .ok (.iconst 2, 1) := by decide +kernel
theorem dd_R_heardJoin_165 : decode cc_R_heardJoin 165 = .ok (.iload_n 1, 1) := by decide +kernel
theorem dd_R_heardJoin_166 : decode cc_R_heardJoin 166 = .ok (.imul, 1) := by decide +kernel
theorem dd_R_heardJoin_167 : decode cc_R_heardJoin 167 = .ok (.iadd, 1) := by decide +kernel
theorem dd_R_heardJoin_168 : decode cc_R_heardJoin 168 = .ok (.invokevirtual 228, 3) := by decide +kernel
theorem dd_R_heardJoin_171 : decode cc_R_heardJoin 171 = .ok (.aload_n 0, 1) := by decide +kernel
theorem dd_R_heardJoin_172 : decode cc_R_heardJoin 172 = .ok (.getfield 80, 3) := by decide +kernel
theorem dd_R_heardJoin_175 : decode cc_R_heardJoin 175 = .ok (.iload_n 1, 1) := by decide +kernel
theorem dd_R_heardJoin_176 : decode cc_R_heardJoin 176 = .ok (.iconst (-1), 1) := by decide +kernel
theorem dd_R_heardJoin_177 : decode cc_R_heardJoin 177 = .ok (.iastore, 1) := by decide +kernel
theorem dd_R_heardJoin_178 : decode cc_R_heardJoin 178 = .ok (.aload_n 0, 1) := by decide +kernel
theorem dd_R_heardJoin_179 : decode cc_R_heardJoin 179 = .ok (.getfield 83, 3) := by decide +kernel
theorem dd_R_heardJoin_182 : decode cc_R_heardJoin 182 = .ok (.iload_n 1, 1) := by decide +kernel
theorem dd_R_heardJoin_183 : decode cc_R_heardJoin 183 = .ok (.iconst 0, 1) := by decide +kernel
theorem dd_R_heardJoin_184 : decode cc_R_heardJoin 184 = .ok (.iastore, 1) := by decide +kernel
theorem dd_R_heardJoin_185 : decode cc_R_heardJoin 185 = .ok (.aload_n 0, 1) := by decide +kernel
theorem dd_R_heardJoin_186 : decode cc_R_heardJoin 186 = .ok (.getfield 92, 3) := by decide +kernel
theorem dd_R_heardJoin_189 : decode cc_R_heardJoin 189 = .ok (.iload_n 1, 1) := by decide +kernel
theorem dd_R_heardJoin_190 : decode cc_R_heardJoin 190 = .ok (.iconst 1, 1) := by decide +kernel
theorem dd_R_heardJoin_191 : decode cc_R_heardJoin 191 = .ok (.iastore, 1) := by decide +kernel
theorem dd_R_heardJoin_192 : decode cc_R_heardJoin 192 = .ok (.return_, 1) := by decide +kernel
theorem dd_R_deviceOf_0 : decode cc_R_deviceOf 0 = .ok (.iconst (-1), 1) := by decide +kernel
theorem dd_R_deviceOf_1 : decode cc_R_deviceOf 1 = .ok (.istore_n 2, 1) := by decide +kernel
theorem dd_R_deviceOf_2 : decode cc_R_deviceOf 2 = .ok (.iconst 0, 1) := by decide +kernel
theorem dd_R_deviceOf_3 : decode cc_R_deviceOf 3 = .ok (.istore_n 3, 1) := by decide +kernel
theorem dd_R_deviceOf_4 : decode cc_R_deviceOf 4 = .ok (.iload_n 3, 1) := by decide +kernel
theorem dd_R_deviceOf_5 : decode cc_R_deviceOf 5 = .ok (.iconst 3, 1) := by decide +kernel
theorem dd_R_deviceOf_6 : decode cc_R_deviceOf 6 = .ok (.if_icmp .ge 34, 3) := by decide +kernel
theorem dd_R_deviceOf_9 : decode cc_R_deviceOf 9 = .ok (.aload_n 0, 1) := by decide +kernel
theorem dd_R_deviceOf_10 : decode cc_R_deviceOf 10 = .ok (.getfield 71, 3) := by decide +kernel
theorem dd_R_deviceOf_13 : decode cc_R_deviceOf 13 = .ok (.iload_n 3, 1) := by decide +kernel
theorem dd_R_deviceOf_14 : decode cc_R_deviceOf 14 = .ok (.iaload, 1) := by decide +kernel
theorem dd_R_deviceOf_15 : decode cc_R_deviceOf 15 = .ok (.ifCond .le 17, 3) := by decide +kernel
theorem dd_R_deviceOf_18 : decode cc_R_deviceOf 18 = .ok (.aload_n 0, 1) := by decide +kernel
theorem dd_R_deviceOf_19 : decode cc_R_deviceOf 19 = .ok (.getfield 74, 3) := by decide +kernel
theorem dd_R_deviceOf_22 : decode cc_R_deviceOf 22 = .ok (.iload_n 3, 1) := by decide +kernel
theorem dd_R_deviceOf_23 : decode cc_R_deviceOf 23 = .ok (.iaload, 1) := by decide +kernel
theorem dd_R_deviceOf_24 : decode cc_R_deviceOf 24 = .ok (.iload_n 1, 1) := by decide +kernel
theorem dd_R_deviceOf_25 : decode cc_R_deviceOf 25 = .ok (.if_icmp .ne 7, 3) := by decide +kernel
theorem dd_R_deviceOf_28 : decode cc_R_deviceOf 28 = .ok (.iload_n 3, 1) := by decide +kernel
theorem dd_R_deviceOf_29 : decode cc_R_deviceOf 29 = .ok (.goto 4, 3) := by decide +kernel
theorem dd_R_deviceOf_32 : decode cc_R_deviceOf 32 = .ok (.iload_n 2, 1) := by decide +kernel
theorem dd_R_deviceOf_33 : decode cc_R_deviceOf 33 = .ok (.istore_n 2, 1) := by decide +kernel
theorem dd_R_deviceOf_34 : decode cc_R_deviceOf 34 = .ok (.iinc 3 1, 3) := by decide +kernel
theorem dd_R_deviceOf_37 : decode cc_R_deviceOf 37 = .ok (.goto (-33), 3) := by decide +kernel
theorem dd_R_deviceOf_40 : decode cc_R_deviceOf 40 = .ok (.iload_n 2, 1) := by decide +kernel
theorem dd_R_deviceOf_41 : decode cc_R_deviceOf 41 = .ok (.ireturn, 1) := by decide +kernel
theorem dd_R_heardData_0 : decode cc_R_heardData 0 = .ok (.aload_n 0, 1) := by decide +kernel
theorem dd_R_heardData_1 : decode cc_R_heardData 1 = .ok (.bipush 23, 2) := by decide +kernel
theorem dd_R_heardData_3 : decode cc_R_heardData 3 = .ok (.invokevirtual 232, 3) := by decide +kernel
theorem dd_R_heardData_6 : decode cc_R_heardData 6 = .ok (.istore_n 2, 1) := by decide +kernel
theorem dd_R_heardData_7 : decode cc_R_heardData 7 = .ok (.iload_n 2, 1) := by decide +kernel
theorem dd_R_heardData_8 : decode cc_R_heardData 8 = .ok (.ifCond .ge 7, 3) := by decide +kernel
theorem dd_R_heardData_11 : decode cc_R_heardData 11 = .ok (.iconst (-1), 1) := by decide +kernel
theorem dd_R_heardData_12 : decode cc_R_heardData 12 = .ok (.goto 15, 3) := by decide +kernel
theorem dd_R_heardData_15 : decode cc_R_heardData 15 = .ok (.aload_n 0, 1) := by decide +kernel
theorem dd_R_heardData_16 : decode cc_R_heardData 16 = .ok (.aload_n 0, 1) := by decide +kernel
theorem dd_R_heardData_17 : decode cc_R_heardData 17 = .ok (.bipush 23, 2) := by decide +kernel
theorem dd_R_heardData_19 : decode cc_R_heardData 19 = .ok (.iconst 1, 1) := by decide +kernel
theorem dd_R_heardData_20 : decode cc_R_heardData 20 = .ok (.iconst 4, 1) := by decide +kernel
theorem dd_R_heardData_21 : decode cc_R_heardData 21 = .ok (.invokevirtual 221, 3) := by decide +kernel
theorem dd_R_heardData_24 : decode cc_R_heardData 24 = .ok (.invokevirtual 263, 3) := by decide +kernel
theorem dd_R_heardData_27 : decode cc_R_heardData 27 = .ok (.istore_n 3, 1) := by decide +kernel
theorem dd_R_heardData_28 : decode cc_R_heardData 28 = .ok (.iload_n 3, 1) := by decide +kernel
theorem dd_R_heardData_29 : decode cc_R_heardData 29 = .ok (.ifCond .ge 4, 3) := by decide +kernel
theorem dd_R_heardData_32 : decode cc_R_heardData 32 = .ok (.return_, 1) := by decide +kernel
theorem dd_R_heardData_33 : decode cc_R_heardData 33 = .ok (.aload_n 0, 1) := by decide +kernel
theorem dd_R_heardData_34 : decode cc_R_heardData 34 = .ok (.bipush 23, 2) := by decide +kernel
theorem dd_R_heardData_36 : decode cc_R_heardData 36 = .ok (.bipush 6, 2) := by decide +kernel
theorem dd_R_heardData_38 : decode cc_R_heardData 38 = .ok (.iconst 2, 1) := by decide +kernel
theorem dd_R_heardData_39 : decode cc_R_heardData 39 = .ok (.invokevirtual 221, 3) := by decide +kernel
theorem dd_R_heardData_42 : decode cc_R_heardData 42 = .ok (.istore 4, 2) := by decide +kernel
theorem dd_R_heardData_44 : decode cc_R_heardData 44 = .ok (.aload_n 0, 1) := by decide +kernel
theorem dd_R_heardData_45 : decode cc_R_heardData 45 = .ok (.getfield 80, 3) := by decide +kernel
theorem dd_R_heardData_48 : decode cc_R_heardData 48 = .ok (.iload_n 3, 1) := by decide +kernel
theorem dd_R_heardData_49 : decode cc_R_heardData 49 = .ok (.iaload, 1) := by decide +kernel
theorem dd_R_heardData_50 : decode cc_R_heardData 50 = .ok (.ifCond .ge 8, 3) := by decide +kernel
theorem dd_R_heardData_53 : decode cc_R_heardData 53 = .ok (.iload 4, 2) := by decide +kernel
theorem dd_R_heardData_55 : decode cc_R_heardData 55 = .ok (.goto 14, 3) := by decide +kernel
theorem dd_R_heardData_58 : decode cc_R_heardData 58 = .ok (.iload 4, 2) := by decide +kernel
theorem dd_R_heardData_60 : decode cc_R_heardData 60 = .ok (.aload_n 0, 1) := by decide +kernel
theorem dd_R_heardData_61 : decode cc_R_heardData 61 = .ok (.getfield 80, 3) := by decide +kernel
theorem dd_R_heardData_64 : decode cc_R_heardData 64 = .ok (.iload_n 3, 1) := by decide +kernel
theorem dd_R_heardData_65 : decode cc_R_heardData 65 = .ok (.iaload, 1) := by decide +kernel
theorem dd_R_heardData_66 : decode cc_R_heardData 66 = .ok (.invokestatic 235, 3) := by decide +kernel
theorem dd_R_heardData_69 : decode cc_R_heardData 69 = .ok (.istore 5, 2) := by decide +kernel
theorem dd_R_heardData_71 : decode cc_R_heardData 71 = .ok (.aload_n 0, 1) := by decide +kernel
theorem dd_R_heardData_72 : decode cc_R_heardData 72 = .ok (.bipush 23, 2) := by decide +kernel
theorem dd_R_heardData_74 : decode cc_R_heardData 74 = .ok (.aload_n 0, 1) := by decide +kernel
theorem dd_R_heardData_75 : decode cc_R_heardData 75 = .ok (.getfield 37, 3) := by decide +kernel
theorem dd_R_heardData_78 : decode cc_R_heardData 78 = .ok (.bipush 23, 2) := by decide +kernel
theorem dd_R_heardData_80 : decode cc_R_heardData 80 = .ok (.iaload, 1) := by decide +kernel
theorem dd_R_heardData_81 : decode cc_R_heardData 81 = .ok (.iconst 4, 1) := by decide +kernel
theorem dd_R_heardData_82 : decode cc_R_heardData 82 = .ok (.isub, 1) := by decide +kernel
theorem dd_R_heardData_83 : decode cc_R_heardData 83 = .ok (.bipush 9, 2) := by decide +kernel
theorem dd_R_heardData_85 : decode cc_R_heardData 85 = .ok (.iconst 2, 1) := by decide +kernel
theorem dd_R_heardData_86 : decode cc_R_heardData 86 = .ok (.iload_n 3, 1) := by decide +kernel
theorem dd_R_heardData_87 : decode cc_R_heardData 87 = .ok (.imul, 1) := by decide +kernel
theorem dd_R_heardData_88 : decode cc_R_heardData 88 = .ok (.iadd, 1) := by decide +kernel
theorem dd_R_heardData_89 : decode cc_R_heardData 89 = .ok (.iconst 0, 1) := by decide +kernel
theorem dd_R_heardData_90 : decode cc_R_heardData 90 = .ok (.aload_n 0, 1) := by decide +kernel
theorem dd_R_heardData_91 : decode cc_R_heardData 91 = .ok (.getfield 74, 3) := by decide +kernel
theorem dd_R_heardData_94 : decode cc_R_heardData 94 = .ok (.iload_n 3, 1) := by decide +kernel
theorem dd_R_heardData_95 : decode cc_R_heardData 95 = .ok (.iaload, 1) := by decide +kernel
theorem dd_R_heardData_96 : decode cc_R_heardData 96 = .ok (.iload 5, 2) := by decide +kernel
theorem dd_R_heardData_98 : decode cc_R_heardData 98 = .ok (.invokevirtual 187, 3) := by decide +kernel
theorem dd_R_heardData_101 : decode cc_R_heardData 101 = .ok (.aload_n 0, 1) := by decide +kernel
theorem dd_R_heardData_102 : decode cc_R_heardData 102 = .ok (.bipush 23, 2) := by decide +kernel
theorem dd_R_heardData_104 : decode cc_R_heardData 104 = .ok (.invokevirtual 225, 3) := by decide +kernel
theorem dd_R_heardData_107 : decode cc_R_heardData 107 = .ok (.ifCond .ne 4, 3) := by decide +kernel
theorem dd_R_heardData_110 : decode cc_R_heardData 110 = .ok (.return_, 1) := by decide +kernel
theorem dd_R_heardData_111 : decode cc_R_heardData 111 = .ok (.aload_n 0, 1) := by decide +kernel
theorem dd_R_heardData_112 : decode cc_R_heardData 112 = .ok (.bipush 23, 2) := by decide +kernel
theorem dd_R_heardData_114 : decode cc_R_heardData 114 = .ok (.iconst 0, 1) := by decide +kernel
theorem dd_R_heardData_115 : decode cc_R_heardData 115 = .ok (.invokevirtual 158, 3) := by decide +kernel
theorem dd_R_heardData_118 : decode cc_R_heardData 118 = .ok (.sipush 128, 3) := by decide +kernel
theorem dd_R_heardData_121 : decode cc_R_heardData 121 = .ok (.if_icmp .ne 7, 3) := by decide +kernel
theorem dd_R_heardData_124 : decode cc_R_heardData 124 = .ok (.iconst 1, 1) := by decide +kernel
theorem dd_R_heardData_125 : decode cc_R_heardData 125 = .ok (.goto 4, 3) := by decide +kernel
theorem dd_R_heardData_128 : decode cc_R_heardData 128 = .ok (.iconst 0, 1) := by decide +kernel
theorem dd_R_heardData_129 : decode cc_R_heardData 129 = .ok (.istore 6, 2) := by decide +kernel
theorem dd_R_heardData_131 : decode cc_R_heardData 131 = .ok (.iload 5, 2) := by decide +kernel
theorem dd_R_heardData_133 : decode cc_R_heardData 133 = .ok (.aload_n 0, 1) := by decide +kernel
theorem dd_R_heardData_134 : decode cc_R_heardData 134 = .ok (.getfield 80, 3) := by decide +kernel
theorem dd_R_heardData_137 : decode cc_R_heardData 137 = .ok (.iload_n 3, 1) := by decide +kernel
theorem dd_R_heardData_138 : decode cc_R_heardData 138 = .ok (.iaload, 1) := by decide +kernel
theorem dd_R_heardData_139 : decode cc_R_heardData 139 = .ok (.if_icmp .ne 65, 3) := by decide +kernel
theorem dd_R_heardData_142 : decode cc_R_heardData 142 = .ok (.aload_n 0, 1) := by decide +kernel
theorem dd_R_heardData_143 : decode cc_R_heardData 143 = .ok (.getfield 89, 3) := by decide +kernel
theorem dd_R_heardData_146 : decode cc_R_heardData 146 = .ok (.iload_n 3, 1) := by decide +kernel
theorem dd_R_heardData_147 : decode cc_R_heardData 147 = .ok (.dup2, 1) := by decide +kernel
theorem dd_R_heardData_148 : decode cc_R_heardData 148 = .ok (.iaload, 1) := by decide +kernel
theorem dd_R_heardData_149 : decode cc_R_heardData 149 = .ok (.iconst 1, 1) := by decide +kernel
theorem dd_R_heardData_150 : decode cc_R_heardData 150 = .ok (.iload_n 1, 1) := by decide +kernel
theorem dd_R_heardData_151 : decode cc_R_heardData 151 = .ok (.ishl, 1) := by decide +kernel
theorem dd_R_heardData_152 : decode cc_R_heardData 152 = .ok (.ior, 1) := by decide +kernel
theorem dd_R_heardData_153 : decode cc_R_heardData 153 = .ok (.iastore, 1) := by decide +kernel
theorem dd_R_heardData_154 : decode cc_R_heardData 154 = .ok (.iload 6, 2) := by decide +kernel
theorem dd_R_heardData_156 : decode cc_R_heardData 156 = .ok (.ifCond .eq 47, 3) := by decide +kernel
theorem dd_R_heardData_159 : decode cc_R_heardData 159 = .ok (.aload_n 0, 1) := by decide +kernel
theorem dd_R_heardData_160 : decode cc_R_heardData 160 = .ok (.getfield 98, 3) := by decide +kernel
theorem dd_R_heardData_163 : decode cc_R_heardData 163 = .ok (.iload_n 3, 1) := by decide +kernel
theorem dd_R_heardData_164 : decode cc_R_heardData 164 = .ok (.aload_n 0, 1) := by decide +kernel
theorem dd_R_heardData_165 : decode cc_R_heardData 165 = .ok (.getfield 92, 3) := by decide +kernel
theorem dd_R_heardData_168 : decode cc_R_heardData 168 = .ok (.iload_n 3, 1) := by decide +kernel
theorem dd_R_heardData_169 : decode cc_R_heardData 169 = .ok (.iaload, 1) := by decide +kernel
theorem dd_R_heardData_170 : decode cc_R_heardData 170 = .ok (.iconst 2, 1) := by decide +kernel
theorem dd_R_heardData_171 : decode cc_R_heardData 171 = .ok (.if_icmp .ne 16, 3) := by decide +kernel
theorem dd_R_heardData_174 : decode cc_R_heardData 174 = .ok (.aload_n 0, 1) := by decide +kernel
theorem dd_R_heardData_175 : decode cc_R_heardData 175 = .ok (.getfield 98, 3) := by decide +kernel
theorem dd_R_heardData_178 : decode cc_R_heardData 178 = .ok (.iload_n 3, 1) := by decide +kernel
theorem dd_R_heardData_179 : decode cc_R_heardData 179 = .ok (.baload, 1) := by decide +kernel
theorem dd_R_heardData_180 : decode cc_R_heardData 180 = .ok (.ifCond .eq 7, 3) := by decide +kernel
theorem dd_R_heardData_183 : decode cc_R_heardData 183 = .ok (.iconst 1, 1) := by decide +kernel
theorem dd_R_heardData_184 : decode cc_R_heardData 184 = .ok (.goto 4, 3) := by decide +kernel
theorem dd_R_heardData_187 : decode cc_R_heardData 187 = .ok (.iconst 0, 1) := by decide +kernel
theorem dd_R_heardData_188 : decode cc_R_heardData 188 = .ok (.bastore, 1) := by decide +kernel
theorem dd_R_heardData_189 : decode cc_R_heardData 189 = .ok (.aload_n 0, 1) := by decide +kernel
theorem dd_R_heardData_190 : decode cc_R_heardData 190 = .ok (.getfield 95, 3) := by decide +kernel
theorem dd_R_heardData_193 : decode cc_R_heardData 193 = .ok (.iload_n 3, 1) := by decide +kernel
theorem dd_R_heardData_194 : decode cc_R_heardData 194 = .ok (.iconst 1, 1) := by decide +kernel
theorem dd_R_heardData_195 : decode cc_R_heardData 195 = .ok (.bastore, 1) := by decide +kernel
theorem dd_R_heardData_196 : decode cc_R_heardData 196 = .ok (.aload_n 0, 1) := by decide +kernel
theorem dd_R_heardData_197 : decode cc_R_heardData 197 = .ok (.getfield 92, 3) := by decide +kernel
theorem dd_R_heardData_200 : decode cc_R_heardData 200 = .ok (.iload_n 3, 1) := by decide +kernel
theorem dd_R_heardData_201 : decode cc_R_heardData 201 = .ok (.iconst 2, 1) := by decide +kernel
theorem dd_R_heardData_202 : decode cc_R_heardData 202 = .ok (.iastore, 1) := by decide +kernel
theorem dd_R_heardData_203 : decode cc_R_heardData 203 = .ok (.return_, 1) := by decide +kernel
theorem dd_R_heardData_204 : decode cc_R_heardData 204 = .ok (.aload_n 0, 1) := by decide +kernel
theorem dd_R_heardData_205 : decode cc_R_heardData 205 = .ok (.getfield 80, 3) := by decide +kernel
theorem dd_R_heardData_208 : decode cc_R_heardData 208 = .ok (.iload_n 3, 1) := by decide +kernel
theorem dd_R_heardData_209 : decode cc_R_heardData 209 = .ok (.iload 5, 2) := by decide +kernel
theorem dd_R_heardData_211 : decode cc_R_heardData 211 = .ok (.iastore, 1) := by decide +kernel
theorem dd_R_heardData_212 : decode cc_R_heardData 212 = .ok (.aload_n 0, 1) := by decide +kernel
theorem dd_R_heardData_213 : decode cc_R_heardData 213 = .ok (.getfield 89, 3) := by decide +kernel
theorem dd_R_heardData_216 : decode cc_R_heardData 216 = .ok (.iload_n 3, 1) := by decide +kernel
theorem dd_R_heardData_217 : decode cc_R_heardData 217 = .ok (.iconst 1, 1) := by decide +kernel
theorem dd_R_heardData_218 : decode cc_R_heardData 218 = .ok (.iload_n 1, 1) := by decide +kernel
theorem dd_R_heardData_219 : decode cc_R_heardData 219 = .ok (.ishl, 1) := by decide +kernel
theorem dd_R_heardData_220 : decode cc_R_heardData 220 = .ok (.iastore, 1) := by decide +kernel
theorem dd_R_heardData_221 : decode cc_R_heardData 221 = .ok (.iload_n 2, 1) := by decide +kernel
theorem dd_R_heardData_222 : decode cc_R_heardData 222 = .ok (.ifCond .le 39, 3) := by decide +kernel
theorem dd_R_heardData_225 : decode cc_R_heardData 225 = .ok (.aload_n 0, 1) := by decide +kernel
theorem dd_R_heardData_226 : decode cc_R_heardData 226 = .ok (.aload_n 0, 1) := by decide +kernel
theorem dd_R_heardData_227 : decode cc_R_heardData 227 = .ok (.bipush 23, 2) := by decide +kernel
theorem dd_R_heardData_229 : decode cc_R_heardData 229 = .ok (.iload_n 2, 1) := by decide +kernel
theorem dd_R_heardData_230 : decode cc_R_heardData 230 = .ok (.invokevirtual 238, 3) := by decide +kernel
theorem dd_R_heardData_233 : decode cc_R_heardData 233 = .ok (.iload_n 2, 1) := by decide +kernel
theorem dd_R_heardData_234 : decode cc_R_heardData 234 = .ok (.bipush 10, 2) := by decide +kernel
theorem dd_R_heardData_236 : decode cc_R_heardData 236 = .ok (.iconst 2, 1) := by decide +kernel
theorem dd_R_heardData_237 : decode cc_R_heardData 237 = .ok (.iload_n 3, 1) := by decide +kernel
theorem dd_R_heardData_238 : decode cc_R_heardData 238 = .ok (.imul, 1) := by decide +kernel
theorem dd_R_heardData_239 : decode cc_R_heardData 239 = .ok (.iadd, 1) := by decide +kernel
theorem dd_R_heardData_240 : decode cc_R_heardData 240 = .ok (.iconst 0, 1) := by decide +kernel
theorem dd_R_heardData_241 : decode cc_R_heardData 241 = .ok (.aload_n 0, 1) := by decide +kernel
theorem dd_R_heardData_242 : decode cc_R_heardData 242 = .ok (.getfield 74, 3) := by decide +kernel
theorem dd_R_heardData_245 : decode cc_R_heardData 245 = .ok (.iload_n 3, 1) := by decide +kernel
theorem dd_R_heardData_246 : decode cc_R_heardData 246 = .ok (.iaload, 1) := by decide +kernel
theorem dd_R_heardData_247 : decode cc_R_heardData 247 = .ok (.iload 5, 2) := by decide +kernel
theorem dd_R_heardData_249 : decode cc_R_heardData 249 = .ok (.invokevirtual 183, 3) := by decide +kernel
theorem dd_R_heardData_252 : decode cc_R_heardData 252 = .ok (.lstore 7, 2) := by decide +kernel
theorem dd_R_heardData_254 : decode cc_R_heardData 254 = .ok (.aload_n 0, 1) := by decide +kernel
theorem dd_R_heardData_255 : decode cc_R_heardData 255 = .ok (.iload_n 3, 1) := by decide +kernel
theorem dd_R_heardData_256 : decode cc_R_heardData 256 = .ok (.lload 7, 2) := by decide +kernel
theorem dd_R_heardData_258 : decode cc_R_heardData 258 = .ok (.invokevirtual 242, 3) := by decide +kernel
theorem dd_R_heardData_261 : decode cc_R_heardData 261 = .ok (.aload_n 0, 1) := by decide +kernel
theorem dd_R_heardData_262 : decode cc_R_heardData 262 = .ok (.getfield 95, 3) := by decide +kernel
theorem dd_R_heardData_265 : decode cc_R_heardData 265 = .ok (.iload_n 3, 1) := by decide +kernel
theorem dd_R_heardData_266 : decode cc_R_heardData 266 = .ok (.iload 6, 2) := by decide +kernel
theorem dd_R_heardData_268 : decode cc_R_heardData 268 = .ok (.bastore, 1) := by decide +kernel
theorem dd_R_heardData_269 : decode cc_R_heardData 269 = .ok (.aload_n 0, 1) := by decide +kernel
theorem dd_R_heardData_270 : decode cc_R_heardData 270 = .ok (.getfield 98, 3) := by decide +kernel
theorem dd_R_heardData_273 : decode cc_R_heardData 273 = .ok (.iload_n 3, 1) := by decide +kernel
theorem dd_R_heardData_274 : decode cc_R_heardData 274 = .ok (.aload_n 0, 1) := by decide +kernel
theorem dd_R_heardData_275 : decode cc_R_heardData 275 = .ok (.bipush 23, 2) := by decide +kernel
theorem dd_R_heardData_277 : decode cc_R_heardData 277 = .ok (.iconst 5, 1) := by decide +kernel
theorem dd_R_heardData_278 : decode cc_R_heardData 278 = .ok (.invokevirtual 158, 3) := by decide +kernel
theorem dd_R_heardData_281 : decode cc_R_heardData 281 = .ok (.bipush 16, 2) := by decide +kernel
theorem dd_R_heardData_283 : decode cc_R_heardData 283 = .ok (.irem, 1) := by decide +kernel
theorem dd_R_heardData_284 : decode cc_R_heardData 284 = .ok (.iconst 1, 1) := by decide +kernel
theorem dd_R_heardData_285 : decode cc_R_heardData 285 = .ok (.if_icmp .ne 19, 3) := by decide +kernel
theorem dd_R_heardData_288 : decode cc_R_heardData 288 = .ok (.aload_n 0, 1) := by decide +kernel
theorem dd_R_heardData_289 : decode cc_R_heardData 289 = .ok (.bipush 23, 2) := by decide +kernel
theorem dd_R_heardData_291 : decode cc_R_heardData 291 = .ok (.bipush 8, 2) := by decide +kernel
theorem dd_R_heardData_293 : decode cc_R_heardData 293 = .ok (.invokevirtual 158, 3) := by decide +kernel
theorem dd_R_heardData_296 : decode cc_R_heardData 296 = .ok (.iconst 2, 1) := by decide +kernel
theorem dd_R_heardData_297 : decode cc_R_heardData 297 = .ok (.if_icmp .ne 7, 3) := by decide +kernel
theorem dd_R_heardData_300 : decode cc_R_heardData 300 = .ok (.iconst 1, 1) := by decide +kernel
theorem dd_R_heardData_301 : decode cc_R_heardData 301 = .ok (.goto 4, 3) := by decide +kernel
theorem dd_R_heardData_304 : decode cc_R_heardData 304 = .ok (.iconst 0, 1) := by decide +kernel
theorem dd_R_heardData_305 : decode cc_R_heardData 305 = .ok (.bastore, 1) := by decide +kernel
theorem dd_R_heardData_306 : decode cc_R_heardData 306 = .ok (.aload_n 0, 1) := by decide +kernel
theorem dd_R_heardData_307 : decode cc_R_heardData 307 = .ok (.getfield 92, 3) := by decide +kernel
theorem dd_R_heardData_310 : decode cc_R_heardData 310 = .ok (.iload_n 3, 1) := by decide +kernel
theorem dd_R_heardData_311 : decode cc_R_heardData 311 = .ok (.iload 6, 2) := by decide +kernel
theorem dd_R_heardData_313 : decode cc_R_heardData 313 = .ok (.ifCond .ne 21, 3) := by decide +kernel
theorem dd_R_heardData_316 : decode cc_R_heardData 316 = .ok (.aload_n 0, 1) := by decide +kernel
theorem dd_R_heardData_317 : decode cc_R_heardData 317 = .ok (.getfield 98, 3) := by decide +kernel
theorem dd_R_heardData_320 : decode cc_R_heardData 320 = .ok (.iload_n 3, 1) := by decide +kernel
theorem dd_R_heardData_321 : decode cc_R_heardData 321 = .ok (.baload, 1) := by decide +kernel
theorem dd_R_heardData_322 : decode cc_R_heardData 322 = .ok (.ifCond .ne 12, 3) := by decide +kernel
theorem dd_R_heardData_325 : decode cc_R_heardData 325 = .ok (.aload_n 0, 1) := by decide +kernel
theorem dd_R_heardData_326 : decode cc_R_heardData 326 = .ok (.getfield 108, 3) := by decide +kernel
theorem dd_R_heardData_329 : decode cc_R_heardData 329 = .ok (.iload_n 3, 1) := by decide +kernel
theorem dd_R_heardData_330 : decode cc_R_heardData 330 = .ok (.iaload, 1) := by decide +kernel
theorem dd_R_heardData_331 : decode cc_R_heardData 331 = .ok (.ifCond .le 7, 3) := by decide +kernel
theorem dd_R_heardData_334 : decode cc_R_heardData 334 = .ok (.iconst 2, 1) := by decide +kernel
theorem dd_R_heardData_335 : decode cc_R_heardData 335 = .ok (.goto 4, 3) := by decide +kernel
theorem dd_R_heardData_338 : decode cc_R_heardData 338 = .ok (.iconst 0, 1) := by decide +kernel
theorem dd_R_heardData_339 : decode cc_R_heardData 339 = .ok (.iastore, 1) := by decide +kernel
theorem dd_R_heardData_340 : decode cc_R_heardData 340 = .ok (.return_, 1) := by decide +kernel
theorem dd_R_hear_0 : decode cc_R_hear 0 = .ok (.iload_n 1, 1) := by decide +kernel
theorem dd_R_hear_1 : decode cc_R_hear 1 = .ok (.aload_n 0, 1) := by decide +kernel
theorem dd_R_hear_2 : decode cc_R_hear 2 = .ok (.getfield 168, 3) := by decide +kernel
theorem dd_R_hear_5 : decode cc_R_hear 5 = .ok (.invokestatic 197, 3) := by decide +kernel
theorem dd_R_hear_8 : decode cc_R_hear 8 = .ok (.ifCond .eq 21, 3) := by decide +kernel
theorem dd_R_hear_11 : decode cc_R_hear 11 = .ok (.iload_n 2, 1) := by decide +kernel
theorem dd_R_hear_12 : decode cc_R_hear 12 = .ok (.iconst 2, 1) := by decide +kernel
theorem dd_R_hear_13 : decode cc_R_hear 13 = .ok (.invokestatic 197, 3) := by decide +kernel
theorem dd_R_hear_16 : decode cc_R_hear 16 = .ok (.ifCond .eq 13, 3) := by decide +kernel
theorem dd_R_hear_19 : decode cc_R_hear 19 = .ok (.aload_n 0, 1) := by decide +kernel
theorem dd_R_hear_20 : decode cc_R_hear 20 = .ok (.getfield 40, 3) := by decide +kernel
theorem dd_R_hear_23 : decode cc_R_hear 23 = .ok (.iload_n 1, 1) := by decide +kernel
theorem dd_R_hear_24 : decode cc_R_hear 24 = .ok (.iaload, 1) := by decide +kernel
theorem dd_R_hear_25 : decode cc_R_hear 25 = .ok (.iconst 3, 1) := by decide +kernel
theorem dd_R_hear_26 : decode cc_R_hear 26 = .ok (.if_icmp .eq 5, 3) := by decide +kernel
theorem dd_R_hear_29 : decode cc_R_hear 29 = .ok (.iconst 0, 1) := by decide +kernel
theorem dd_R_hear_30 : decode cc_R_hear 30 = .ok (.ireturn, 1) := by decide +kernel
theorem dd_R_hear_31 : decode cc_R_hear 31 = .ok (.aload_n 0, 1) := by decide +kernel
theorem dd_R_hear_32 : decode cc_R_hear 32 = .ok (.iload_n 1, 1) := by decide +kernel
theorem dd_R_hear_33 : decode cc_R_hear 33 = .ok (.bipush 23, 2) := by decide +kernel
theorem dd_R_hear_35 : decode cc_R_hear 35 = .ok (.invokevirtual 165, 3) := by decide +kernel
theorem dd_R_hear_38 : decode cc_R_hear 38 = .ok (.aload_n 0, 1) := by decide +kernel
theorem dd_R_hear_39 : decode cc_R_hear 39 = .ok (.bipush 23, 2) := by decide +kernel
theorem dd_R_hear_41 : decode cc_R_hear 41 = .ok (.iconst 0, 1) := by decide +kernel
theorem dd_R_hear_42 : decode cc_R_hear 42 = .ok (.invokevirtual 158, 3) := by decide +kernel
theorem dd_R_hear_45 : decode cc_R_hear 45 = .ok (.istore_n 3, 1) := by decide +kernel
theorem dd_R_hear_46 : decode cc_R_hear 46 = .ok (.iload_n 3, 1) := by decide +kernel
theorem dd_R_hear_47 : decode cc_R_hear 47 = .ok (.ifCond .ne 10, 3) := by decide +kernel
theorem dd_R_hear_50 : decode cc_R_hear 50 = .ok (.aload_n 0, 1) := by decide +kernel
theorem dd_R_hear_51 : decode cc_R_hear 51 = .ok (.invokevirtual 266, 3) := by decide +kernel
theorem dd_R_hear_54 : decode cc_R_hear 54 = .ok (.goto 21, 3) := by decide +kernel
theorem dd_R_hear_57 : decode cc_R_hear 57 = .ok (.iload_n 3, 1) := by decide +kernel
theorem dd_R_hear_58 : decode cc_R_hear 58 = .ok (.bipush 64, 2) := by decide +kernel
theorem dd_R_hear_60 : decode cc_R_hear 60 = .ok (.if_icmp .eq 10, 3) := by decide +kernel
theorem dd_R_hear_63 : decode cc_R_hear 63 = .ok (.iload_n 3, 1) := by decide +kernel
theorem dd_R_hear_64 : decode cc_R_hear 64 = .ok (.sipush 128, 3) := by decide +kernel
theorem dd_R_hear_67 : decode cc_R_hear 67 = .ok (.if_icmp .ne 8, 3) := by decide +kernel
theorem dd_R_hear_70 : decode cc_R_hear 70 = .ok (.aload_n 0, 1) := by decide +kernel
theorem dd_R_hear_71 : decode cc_R_hear 71 = .ok (.iload_n 2, 1) := by decide +kernel
theorem dd_R_hear_72 : decode cc_R_hear 72 = .ok (.invokevirtual 269, 3) := by decide +kernel
theorem dd_R_hear_75 : decode cc_R_hear 75 = .ok (.iconst 1, 1) := by decide +kernel
theorem dd_R_hear_76 : decode cc_R_hear 76 = .ok (.ireturn, 1) := by decide +kernel
theorem dd_R_sendAccept_0 : decode cc_R_sendAccept 0 = .ok (.aload_n 0, 1) := by decide +kernel
theorem dd_R_sendAccept_1 : decode cc_R_sendAccept 1 = .ok (.getfield 37, 3) := by decide +kernel
theorem dd_R_sendAccept_4 : decode cc_R_sendAccept 4 = .ok (.bipush 23, 2) := by decide +kernel
theorem dd_R_sendAccept_6 : decode cc_R_sendAccept 6 = .ok (.iconst 0, 1) := by decide +kernel
theorem dd_R_sendAccept_7 : decode cc_R_sendAccept 7 = .ok (.iastore, 1) := by decide +kernel
theorem dd_R_sendAccept_8 : decode cc_R_sendAccept 8 = .ok (.aload_n 0, 1) := by decide +kernel
theorem dd_R_sendAccept_9 : decode cc_R_sendAccept 9 = .ok (.bipush 23, 2) := by decide +kernel
theorem dd_R_sendAccept_11 : decode cc_R_sendAccept 11 = .ok (.bipush 32, 2) := by decide +kernel
theorem dd_R_sendAccept_13 : decode cc_R_sendAccept 13 = .ok (.invokevirtual 155, 3) := by decide +kernel
theorem dd_R_sendAccept_16 : decode cc_R_sendAccept 16 = .ok (.aload_n 0, 1) := by decide +kernel
theorem dd_R_sendAccept_17 : decode cc_R_sendAccept 17 = .ok (.bipush 23, 2) := by decide +kernel
theorem dd_R_sendAccept_19 : decode cc_R_sendAccept 19 = .ok (.aload_n 0, 1) := by decide +kernel
theorem dd_R_sendAccept_20 : decode cc_R_sendAccept 20 = .ok (.getfield 77, 3) := by decide +kernel
theorem dd_R_sendAccept_23 : decode cc_R_sendAccept 23 = .ok (.iload_n 1, 1) := by decide +kernel
theorem dd_R_sendAccept_24 : decode cc_R_sendAccept 24 = .ok (.iaload, 1) := by decide +kernel
theorem dd_R_sendAccept_25 : decode cc_R_sendAccept 25 = .ok (.iconst 3, 1) := by decide +kernel
theorem dd_R_sendAccept_26 : decode cc_R_sendAccept 26 = .ok (.invokevirtual 179, 3) := by decide +kernel
theorem dd_R_sendAccept_29 : decode cc_R_sendAccept 29 = .ok (.aload_n 0, 1) := by decide +kernel
theorem dd_R_sendAccept_30 : decode cc_R_sendAccept 30 = .ok (.bipush 23, 2) := by decide +kernel
theorem dd_R_sendAccept_32 : decode cc_R_sendAccept 32 = .ok (.bipush 19, 2) := by decide +kernel
theorem dd_R_sendAccept_34 : decode cc_R_sendAccept 34 = .ok (.iconst 3, 1) := by decide +kernel
theorem dd_R_sendAccept_35 : decode cc_R_sendAccept 35 = .ok (.invokevirtual 179, 3) := by decide +kernel
theorem dd_R_sendAccept_38 : decode cc_R_sendAccept 38 = .ok (.aload_n 0, 1) := by decide +kernel
theorem dd_R_sendAccept_39 : decode cc_R_sendAccept 39 = .ok (.bipush 23, 2) := by decide +kernel
theorem dd_R_sendAccept_41 : decode cc_R_sendAccept 41 = .ok (.aload_n 0, 1) := by decide +kernel
theorem dd_R_sendAccept_42 : decode cc_R_sendAccept 42 = .ok (.getfield 74, 3) := by decide +kernel
theorem dd_R_sendAccept_45 : decode cc_R_sendAccept 45 = .ok (.iload_n 1, 1) := by decide +kernel
theorem dd_R_sendAccept_46 : decode cc_R_sendAccept 46 = .ok (.iaload, 1) := by decide +kernel
theorem dd_R_sendAccept_47 : decode cc_R_sendAccept 47 = .ok (.iconst 4, 1) := by decide +kernel
theorem dd_R_sendAccept_48 : decode cc_R_sendAccept 48 = .ok (.invokevirtual 179, 3) := by decide +kernel
theorem dd_R_sendAccept_51 : decode cc_R_sendAccept 51 = .ok (.aload_n 0, 1) := by decide +kernel
theorem dd_R_sendAccept_52 : decode cc_R_sendAccept 52 = .ok (.bipush 23, 2) := by decide +kernel
theorem dd_R_sendAccept_54 : decode cc_R_sendAccept 54 = .ok (.iconst 0, 1) := by decide +kernel
theorem dd_R_sendAccept_55 : decode cc_R_sendAccept 55 = .ok (.invokevirtual 155, 3) := by decide +kernel
theorem dd_R_sendAccept_58 : decode cc_R_sendAccept 58 = .ok (.aload_n 0, 1) := by decide +kernel
theorem dd_R_sendAccept_59 : decode cc_R_sendAccept 59 = .ok (.bipush 23, 2) := by decide +kernel
theorem dd_R_sendAccept_61 : decode cc_R_sendAccept 61 = .ok (.iconst 1, 1) := by decide +kernel
theorem dd_R_sendAccept_62 : decode cc_R_sendAccept 62 = .ok (.invokevirtual 155, 3) := by decide +kernel
theorem dd_R_sendAccept_65 : decode cc_R_sendAccept 65 = .ok (.aload_n 0, 1) := by decide +kernel
theorem dd_R_sendAccept_66 : decode cc_R_sendAccept 66 = .ok (.bipush 23, 2) := by decide +kernel
theorem dd_R_sendAccept_68 : decode cc_R_sendAccept 68 = .ok (.bipush 13, 2) := by decide +kernel
theorem dd_R_sendAccept_70 : decode cc_R_sendAccept 70 = .ok (.iload_n 1, 1) := by decide +kernel
theorem dd_R_sendAccept_71 : decode cc_R_sendAccept 71 = .ok (.invokevirtual 202, 3) := by decide +kernel
theorem dd_R_sendAccept_74 : decode cc_R_sendAccept 74 = .ok (.iconst 0, 1) := by decide +kernel
theorem dd_R_sendAccept_75 : decode cc_R_sendAccept 75 = .ok (.istore_n 2, 1) := by decide +kernel
theorem dd_R_sendAccept_76 : decode cc_R_sendAccept 76 = .ok (.iload_n 2, 1) := by decide +kernel
theorem dd_R_sendAccept_77 : decode cc_R_sendAccept 77 = .ok (.iconst 4, 1) := by decide +kernel
theorem dd_R_sendAccept_78 : decode cc_R_sendAccept 78 = .ok (.if_icmp .ge 21, 3) := by decide +kernel
theorem dd_R_sendAccept_81 : decode cc_R_sendAccept 81 = .ok (.aload_n 0, 1) := by decide +kernel
theorem dd_R_sendAccept_82 : decode cc_R_sendAccept 82 = .ok (.bipush 23, 2) := by decide +kernel
theorem dd_R_sendAccept_84 : decode cc_R_sendAccept 84 = .ok (.aload_n 0, 1) := by decide +kernel
theorem dd_R_sendAccept_85 : decode cc_R_sendAccept 85 = .ok (.getfield 25, 3) := by decide +kernel
theorem dd_R_sendAccept_88 : decode cc_R_sendAccept 88 = .ok (.iload_n 2, 1) := by decide +kernel
theorem dd_R_sendAccept_89 : decode cc_R_sendAccept 89 = .ok (.iaload, 1) := by decide +kernel
theorem dd_R_sendAccept_90 : decode cc_R_sendAccept 90 = .ok (.invokevirtual 155, 3) := by decide +kernel
theorem dd_R_sendAccept_93 : decode cc_R_sendAccept 93 = .ok (.iinc 2 1, 3) := by decide +kernel
theorem dd_R_sendAccept_96 : decode cc_R_sendAccept 96 = .ok (.goto (-20), 3) := by decide +kernel
theorem dd_R_sendAccept_99 : decode cc_R_sendAccept 99 = .ok (.iconst 0, 1) := by decide +kernel
theorem dd_R_sendAccept_100 : decode cc_R_sendAccept 100 = .ok (.istore_n 2, 1) := by decide +kernel
theorem dd_R_sendAccept_101 : decode cc_R_sendAccept 101 = .ok (.iload_n 2, 1) := by decide +kernel
theorem dd_R_sendAccept_102 : decode cc_R_sendAccept 102 = .ok (.bipush 16, 2) := by decide +kernel
theorem dd_R_sendAccept_104 : decode cc_R_sendAccept 104 = .ok (.if_icmp .ge 24, 3) := by decide +kernel
theorem dd_R_sendAccept_107 : decode cc_R_sendAccept 107 = .ok (.aload_n 0, 1) := by decide +kernel
theorem dd_R_sendAccept_108 : decode cc_R_sendAccept 108 = .ok (.getfield 19, 3) := by decide +kernel
theorem dd_R_sendAccept_111 : decode cc_R_sendAccept 111 = .ok (.iload_n 2, 1) := by decide +kernel
theorem dd_R_sendAccept_112 : decode cc_R_sendAccept 112 = .ok (.aload_n 0, 1) := by decide +kernel
theorem dd_R_sendAccept_113 : decode cc_R_sendAccept 113 = .ok (.bipush 23, 2) := by decide +kernel
theorem dd_R_sendAccept_115 : decode cc_R_sendAccept 115 = .ok (.iconst 1, 1) := by decide +kernel
theorem dd_R_sendAccept_116 : decode cc_R_sendAccept 116 = .ok (.iload_n 2, 1) := by decide +kernel
theorem dd_R_sendAccept_117 : decode cc_R_sendAccept 117 = .ok (.iadd, 1) := by decide +kernel
theorem dd_R_sendAccept_118 : decode cc_R_sendAccept 118 = .ok (.invokevirtual 158, 3) := by decide +kernel
theorem dd_R_sendAccept_121 : decode cc_R_sendAccept 121 = .ok (.iastore, 1) := by decide +kernel
theorem dd_R_sendAccept_122 : decode cc_R_sendAccept 122 = .ok (.iinc 2 1, 3) := by decide +kernel
theorem dd_R_sendAccept_125 : decode cc_R_sendAccept 125 = .ok (.goto (-24), 3) := by decide +kernel
theorem dd_R_sendAccept_128 : decode cc_R_sendAccept 128 = .ok (.aload_n 0, 1) := by decide +kernel
theorem dd_R_sendAccept_129 : decode cc_R_sendAccept 129 = .ok (.iload_n 1, 1) := by decide +kernel
theorem dd_R_sendAccept_130 : decode cc_R_sendAccept 130 = .ok (.invokevirtual 272, 3) := by decide +kernel
theorem dd_R_sendAccept_133 : decode cc_R_sendAccept 133 = .ok (.iconst 0, 1) := by decide +kernel
theorem dd_R_sendAccept_134 : decode cc_R_sendAccept 134 = .ok (.istore_n 2, 1) := by decide +kernel
theorem dd_R_sendAccept_135 : decode cc_R_sendAccept 135 = .ok (.iload_n 2, 1) := by decide +kernel
theorem dd_R_sendAccept_136 : decode cc_R_sendAccept 136 = .ok (.bipush 16, 2) := by decide +kernel
theorem dd_R_sendAccept_138 : decode cc_R_sendAccept 138 = .ok (.if_icmp .ge 25, 3) := by decide +kernel
theorem dd_R_sendAccept_141 : decode cc_R_sendAccept 141 = .ok (.aload_n 0, 1) := by decide +kernel
theorem dd_R_sendAccept_142 : decode cc_R_sendAccept 142 = .ok (.getfield 34, 3) := by decide +kernel
theorem dd_R_sendAccept_145 : decode cc_R_sendAccept 145 = .ok (.sipush 737, 3) := by decide +kernel
theorem dd_R_sendAccept_148 : decode cc_R_sendAccept 148 = .ok (.iload_n 2, 1) := by decide +kernel
theorem dd_R_sendAccept_149 : decode cc_R_sendAccept 149 = .ok (.iadd, 1) := by decide +kernel
theorem dd_R_sendAccept_150 : decode cc_R_sendAccept 150 = .ok (.aload_n 0, 1) := by decide +kernel
theorem dd_R_sendAccept_151 : decode cc_R_sendAccept 151 = .ok (.getfield 19, 3) := by decide +kernel
theorem dd_R_sendAccept_154 : decode cc_R_sendAccept 154 = .ok (.iload_n 2, 1) := by decide +kernel
theorem dd_R_sendAccept_155 : decode cc_R_sendAccept 155 = .ok (.iaload, 1) := by decide +kernel
theorem dd_R_sendAccept_156 : decode cc_R_sendAccept 156 = .ok (.iastore, 1) := by decide +kernel
theorem dd_R_sendAccept_157 : decode cc_R_sendAccept 157 = .ok (.iinc 2 1, 3) := by decide +kernel
theorem dd_R_sendAccept_160 : decode cc_R_sendAccept 160 = .ok (.goto (-25), 3) := by decide +kernel
theorem dd_R_sendAccept_163 : decode cc_R_sendAccept 163 = .ok (.return_, 1) := by decide +kernel
