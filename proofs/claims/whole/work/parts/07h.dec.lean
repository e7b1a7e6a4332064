theorem dd_R_sendAnswer_0 : decode cc_R_sendAnswer 0 = .ok (.aload_n 0, 1) := by decide +kernel
theorem dd_R_sendAnswer_1 : decode cc_R_sendAnswer 1 = .ok (.getfield 83, 3) := by decide +kernel
theorem dd_R_sendAnswer_4 : decode cc_R_sendAnswer 4 = .ok (.iload_n 1, 1) := by decide +kernel
theorem dd_R_sendAnswer_5 : decode cc_R_sendAnswer 5 = .ok (.iaload, 1) := by decide +kernel
theorem dd_R_sendAnswer_6 : decode cc_R_sendAnswer 6 = .ok (.istore_n 2, 1) := by decide +kernel
theorem dd_R_sendAnswer_7 : decode cc_R_sendAnswer 7 = .ok (.aload_n 0, 1) := by decide +kernel
theorem dd_R_sendAnswer_8 : decode cc_R_sendAnswer 8 = .ok (.getfield 95, 3) := by decide +kernel
theorem dd_R_sendAnswer_11 : decode cc_R_sendAnswer 11 = .ok (.iload_n 1, 1) := by decide +kernel
theorem dd_R_sendAnswer_12 : decode cc_R_sendAnswer 12 = .ok (.baload, 1) := by decide +kernel
theorem dd_R_sendAnswer_13 : decode cc_R_sendAnswer 13 = .ok (.ifCond .eq 8, 3) := by decide +kernel
theorem dd_R_sendAnswer_16 : decode cc_R_sendAnswer 16 = .ok (.bipush 32, 2) := by decide +kernel
theorem dd_R_sendAnswer_18 : decode cc_R_sendAnswer 18 = .ok (.goto 4, 3) := by decide +kernel
theorem dd_R_sendAnswer_21 : decode cc_R_sendAnswer 21 = .ok (.iconst 0, 1) := by decide +kernel
theorem dd_R_sendAnswer_22 : decode cc_R_sendAnswer 22 = .ok (.aload_n 0, 1) := by decide +kernel
theorem dd_R_sendAnswer_23 : decode cc_R_sendAnswer 23 = .ok (.getfield 108, 3) := by decide +kernel
theorem dd_R_sendAnswer_26 : decode cc_R_sendAnswer 26 = .ok (.iload_n 1, 1) := by decide +kernel
theorem dd_R_sendAnswer_27 : decode cc_R_sendAnswer 27 = .ok (.iaload, 1) := by decide +kernel
theorem dd_R_sendAnswer_28 : decode cc_R_sendAnswer 28 = .ok (.iconst 1, 1) := by decide +kernel
theorem dd_R_sendAnswer_29 : decode cc_R_sendAnswer 29 = .ok (.if_icmp .le 8, 3) := by decide +kernel
theorem dd_R_sendAnswer_32 : decode cc_R_sendAnswer 32 = .ok (.bipush 16, 2) := by decide +kernel
theorem dd_R_sendAnswer_34 : decode cc_R_sendAnswer 34 = .ok (.goto 4, 3) := by decide +kernel
theorem dd_R_sendAnswer_37 : decode cc_R_sendAnswer 37 = .ok (.iconst 0, 1) := by decide +kernel
theorem dd_R_sendAnswer_38 : decode cc_R_sendAnswer 38 = .ok (.iadd, 1) := by decide +kernel
theorem dd_R_sendAnswer_39 : decode cc_R_sendAnswer 39 = .ok (.aload_n 0, 1) := by decide +kernel
theorem dd_R_sendAnswer_40 : decode cc_R_sendAnswer 40 = .ok (.getfield 98, 3) := by decide +kernel
theorem dd_R_sendAnswer_43 : decode cc_R_sendAnswer 43 = .ok (.iload_n 1, 1) := by decide +kernel
theorem dd_R_sendAnswer_44 : decode cc_R_sendAnswer 44 = .ok (.baload, 1) := by decide +kernel
theorem dd_R_sendAnswer_45 : decode cc_R_sendAnswer 45 = .ok (.ifCond .eq 7, 3) := by decide +kernel
theorem dd_R_sendAnswer_48 : decode cc_R_sendAnswer 48 = .ok (.iconst 3, 1) := by decide +kernel
theorem dd_R_sendAnswer_49 : decode cc_R_sendAnswer 49 = .ok (.goto 4, 3) := by decide +kernel
theorem dd_R_sendAnswer_52 : decode cc_R_sendAnswer 52 = .ok (.iconst 0, 1) := by decide +kernel
theorem dd_R_sendAnswer_53 : decode cc_R_sendAnswer 53 = .ok (.iadd, 1) := by decide +kernel
theorem dd_R_sendAnswer_54 : decode cc_R_sendAnswer 54 = .ok (.istore_n 3, 1) := by decide +kernel
theorem dd_R_sendAnswer_55 : decode cc_R_sendAnswer 55 = .ok (.aload_n 0, 1) := by decide +kernel
theorem dd_R_sendAnswer_56 : decode cc_R_sendAnswer 56 = .ok (.bipush 23, 2) := by decide +kernel
theorem dd_R_sendAnswer_58 : decode cc_R_sendAnswer 58 = .ok (.bipush 96, 2) := by decide +kernel
theorem dd_R_sendAnswer_60 : decode cc_R_sendAnswer 60 = .ok (.aload_n 0, 1) := by decide +kernel
theorem dd_R_sendAnswer_61 : decode cc_R_sendAnswer 61 = .ok (.getfield 74, 3) := by decide +kernel
theorem dd_R_sendAnswer_64 : decode cc_R_sendAnswer 64 = .ok (.iload_n 1, 1) := by decide +kernel
theorem dd_R_sendAnswer_65 : decode cc_R_sendAnswer 65 = .ok (.iaload, 1) := by decide +kernel
theorem dd_R_sendAnswer_66 : decode cc_R_sendAnswer 66 = .ok (.iload_n 3, 1) := by decide +kernel
theorem dd_R_sendAnswer_67 : decode cc_R_sendAnswer 67 = .ok (.iload_n 2, 1) := by decide +kernel
theorem dd_R_sendAnswer_68 : decode cc_R_sendAnswer 68 = .ok (.invokevirtual 208, 3) := by decide +kernel
theorem dd_R_sendAnswer_71 : decode cc_R_sendAnswer 71 = .ok (.aload_n 0, 1) := by decide +kernel
theorem dd_R_sendAnswer_72 : decode cc_R_sendAnswer 72 = .ok (.getfield 98, 3) := by decide +kernel
theorem dd_R_sendAnswer_75 : decode cc_R_sendAnswer 75 = .ok (.iload_n 1, 1) := by decide +kernel
theorem dd_R_sendAnswer_76 : decode cc_R_sendAnswer 76 = .ok (.baload, 1) := by decide +kernel
theorem dd_R_sendAnswer_77 : decode cc_R_sendAnswer 77 = .ok (.ifCond .eq 41, 3) := by decide +kernel
theorem dd_R_sendAnswer_80 : decode cc_R_sendAnswer 80 = .ok (.aload_n 0, 1) := by decide +kernel
theorem dd_R_sendAnswer_81 : decode cc_R_sendAnswer 81 = .ok (.bipush 23, 2) := by decide +kernel
theorem dd_R_sendAnswer_83 : decode cc_R_sendAnswer 83 = .ok (.iconst 2, 1) := by decide +kernel
theorem dd_R_sendAnswer_84 : decode cc_R_sendAnswer 84 = .ok (.invokevirtual 155, 3) := by decide +kernel
theorem dd_R_sendAnswer_87 : decode cc_R_sendAnswer 87 = .ok (.aload_n 0, 1) := by decide +kernel
theorem dd_R_sendAnswer_88 : decode cc_R_sendAnswer 88 = .ok (.bipush 23, 2) := by decide +kernel
theorem dd_R_sendAnswer_90 : decode cc_R_sendAnswer 90 = .ok (.bipush 10, 2) := by decide +kernel
theorem dd_R_sendAnswer_92 : decode cc_R_sendAnswer 92 = .ok (.invokevirtual 155, 3) := by decide +kernel
theorem dd_R_sendAnswer_95 : decode cc_R_sendAnswer 95 = .ok (.aload_n 0, 1) := by decide +kernel
theorem dd_R_sendAnswer_96 : decode cc_R_sendAnswer 96 = .ok (.bipush 23, 2) := by decide +kernel
theorem dd_R_sendAnswer_98 : decode cc_R_sendAnswer 98 = .ok (.aload_n 0, 1) := by decide +kernel
theorem dd_R_sendAnswer_99 : decode cc_R_sendAnswer 99 = .ok (.getfield 89, 3) := by decide +kernel
theorem dd_R_sendAnswer_102 : decode cc_R_sendAnswer 102 = .ok (.iload_n 1, 1) := by decide +kernel
theorem dd_R_sendAnswer_103 : decode cc_R_sendAnswer 103 = .ok (.iaload, 1) := by decide +kernel
theorem dd_R_sendAnswer_104 : decode cc_R_sendAnswer 104 = .ok (.iconst 1, 1) := by decide +kernel
theorem dd_R_sendAnswer_105 : decode cc_R_sendAnswer 105 = .ok (.iand, 1) := by decide +kernel
theorem dd_R_sendAnswer_106 : decode cc_R_sendAnswer 106 = .ok (.aload_n 0, 1) := by decide +kernel
theorem dd_R_sendAnswer_107 : decode cc_R_sendAnswer 107 = .ok (.getfield 89, 3) := by decide +kernel
theorem dd_R_sendAnswer_110 : decode cc_R_sendAnswer 110 = .ok (.iload_n 1, 1) := by decide +kernel
theorem dd_R_sendAnswer_111 : decode cc_R_sendAnswer 111 = .ok (.iaload, 1) := by decide +kernel
theorem dd_R_sendAnswer_112 : decode cc_R_sendAnswer 112 = .ok (.iconst 1, 1) := by decide +kernel
theorem dd_R_sendAnswer_113 : decode cc_R_sendAnswer 113 = .ok (.ishr, 1) := by decide +kernel
theorem dd_R_sendAnswer_114 : decode cc_R_sendAnswer 114 = .ok (.iadd, 1) := by decide +kernel
theorem dd_R_sendAnswer_115 : decode cc_R_sendAnswer 115 = .ok (.invokevirtual 155, 3) := by decide +kernel
theorem dd_R_sendAnswer_118 : decode cc_R_sendAnswer 118 = .ok (.aload_n 0, 1) := by decide +kernel
theorem dd_R_sendAnswer_119 : decode cc_R_sendAnswer 119 = .ok (.getfield 108, 3) := by decide +kernel
theorem dd_R_sendAnswer_122 : decode cc_R_sendAnswer 122 = .ok (.iload_n 1, 1) := by decide +kernel
theorem dd_R_sendAnswer_123 : decode cc_R_sendAnswer 123 = .ok (.iaload, 1) := by decide +kernel
theorem dd_R_sendAnswer_124 : decode cc_R_sendAnswer 124 = .ok (.ifCond .le 7, 3) := by decide +kernel
theorem dd_R_sendAnswer_127 : decode cc_R_sendAnswer 127 = .ok (.iconst 1, 1) := by decide +kernel
theorem dd_R_sendAnswer_128 : decode cc_R_sendAnswer 128 = .ok (.goto 4, 3) := by decide +kernel
theorem dd_R_sendAnswer_131 : decode cc_R_sendAnswer 131 = .ok (.iconst 0, 1) := by decide +kernel
theorem dd_R_sendAnswer_132 : decode cc_R_sendAnswer 132 = .ok (.istore 4, 2) := by decide +kernel
theorem dd_R_sendAnswer_134 : decode cc_R_sendAnswer 134 = .ok (.aload_n 0, 1) := by decide +kernel
theorem dd_R_sendAnswer_135 : decode cc_R_sendAnswer 135 = .ok (.bipush 23, 2) := by decide +kernel
theorem dd_R_sendAnswer_137 : decode cc_R_sendAnswer 137 = .ok (.iload 4, 2) := by decide +kernel
theorem dd_R_sendAnswer_139 : decode cc_R_sendAnswer 139 = .ok (.ifCond .eq 14, 3) := by decide +kernel
theorem dd_R_sendAnswer_142 : decode cc_R_sendAnswer 142 = .ok (.aload_n 0, 1) := by decide +kernel
theorem dd_R_sendAnswer_143 : decode cc_R_sendAnswer 143 = .ok (.getfield 101, 3) := by decide +kernel
theorem dd_R_sendAnswer_146 : decode cc_R_sendAnswer 146 = .ok (.iconst 4, 1) := by decide +kernel
theorem dd_R_sendAnswer_147 : decode cc_R_sendAnswer 147 = .ok (.iload_n 1, 1) := by decide +kernel
theorem dd_R_sendAnswer_148 : decode cc_R_sendAnswer 148 = .ok (.imul, 1) := by decide +kernel
theorem dd_R_sendAnswer_149 : decode cc_R_sendAnswer 149 = .ok (.laload, 1) := by decide +kernel
theorem dd_R_sendAnswer_150 : decode cc_R_sendAnswer 150 = .ok (.goto 4, 3) := by decide +kernel
theorem dd_R_sendAnswer_153 : decode cc_R_sendAnswer 153 = .ok (.lconst 0, 1) := by decide +kernel
theorem dd_R_sendAnswer_154 : decode cc_R_sendAnswer 154 = .ok (.iload 4, 2) := by decide +kernel
theorem dd_R_sendAnswer_156 : decode cc_R_sendAnswer 156 = .ok (.ifCond .eq 14, 3) := by decide +kernel
theorem dd_R_sendAnswer_159 : decode cc_R_sendAnswer 159 = .ok (.aload_n 0, 1) := by decide +kernel
theorem dd_R_sendAnswer_160 : decode cc_R_sendAnswer 160 = .ok (.getfield 105, 3) := by decide +kernel
theorem dd_R_sendAnswer_163 : decode cc_R_sendAnswer 163 = .ok (.iconst 4, 1) := by decide +kernel
theorem dd_R_sendAnswer_164 : decode cc_R_sendAnswer 164 = .ok (.iload_n 1, 1) := by decide +kernel
theorem dd_R_sendAnswer_165 : decode cc_R_sendAnswer 165 = .ok (.imul, 1) := by decide +kernel
theorem dd_R_sendAnswer_166 : decode cc_R_sendAnswer 166 = .ok (.iaload, 1) := by decide +kernel
theorem dd_R_sendAnswer_167 : decode cc_R_sendAnswer 167 = .ok (.goto 4, 3) := by decide +kernel
theorem dd_R_sendAnswer_170 : decode cc_R_sendAnswer 170 = .ok (.iconst 0, 1) := by decide +kernel
theorem dd_R_sendAnswer_171 : decode cc_R_sendAnswer 171 = .ok (.bipush 9, 2) := by decide +kernel
theorem dd_R_sendAnswer_173 : decode cc_R_sendAnswer 173 = .ok (.iconst 2, 1) := by decide +kernel
theorem dd_R_sendAnswer_174 : decode cc_R_sendAnswer 174 = .ok (.iload_n 1, 1) := by decide +kernel
theorem dd_R_sendAnswer_175 : decode cc_R_sendAnswer 175 = .ok (.imul, 1) := by decide +kernel
theorem dd_R_sendAnswer_176 : decode cc_R_sendAnswer 176 = .ok (.iadd, 1) := by decide +kernel
theorem dd_R_sendAnswer_177 : decode cc_R_sendAnswer 177 = .ok (.iconst 1, 1) := by decide +kernel
theorem dd_R_sendAnswer_178 : decode cc_R_sendAnswer 178 = .ok (.aload_n 0, 1) := by decide +kernel
theorem dd_R_sendAnswer_179 : decode cc_R_sendAnswer 179 = .ok (.getfield 74, 3) := by decide +kernel
theorem dd_R_sendAnswer_182 : decode cc_R_sendAnswer 182 = .ok (.iload_n 1, 1) := by decide +kernel
theorem dd_R_sendAnswer_183 : decode cc_R_sendAnswer 183 = .ok (.iaload, 1) := by decide +kernel
theorem dd_R_sendAnswer_184 : decode cc_R_sendAnswer 184 = .ok (.iload_n 2, 1) := by decide +kernel
theorem dd_R_sendAnswer_185 : decode cc_R_sendAnswer 185 = .ok (.invokevirtual 212, 3) := by decide +kernel
theorem dd_R_sendAnswer_188 : decode cc_R_sendAnswer 188 = .ok (.aload_n 0, 1) := by decide +kernel
theorem dd_R_sendAnswer_189 : decode cc_R_sendAnswer 189 = .ok (.getfield 83, 3) := by decide +kernel
theorem dd_R_sendAnswer_192 : decode cc_R_sendAnswer 192 = .ok (.iload_n 1, 1) := by decide +kernel
theorem dd_R_sendAnswer_193 : decode cc_R_sendAnswer 193 = .ok (.dup2, 1) := by decide +kernel
theorem dd_R_sendAnswer_194 : decode cc_R_sendAnswer 194 = .ok (.iaload, 1) := by decide +kernel
theorem dd_R_sendAnswer_195 : decode cc_R_sendAnswer 195 = .ok (.iconst 1, 1) := by decide +kernel
theorem dd_R_sendAnswer_196 : decode cc_R_sendAnswer 196 = .ok (.iadd, 1) := by decide +kernel
theorem dd_R_sendAnswer_197 : decode cc_R_sendAnswer 197 = .ok (.iastore, 1) := by decide +kernel
theorem dd_R_sendAnswer_198 : decode cc_R_sendAnswer 198 = .ok (.iload 4, 2) := by decide +kernel
theorem dd_R_sendAnswer_200 : decode cc_R_sendAnswer 200 = .ok (.ifCond .eq 71, 3) := by decide +kernel
theorem dd_R_sendAnswer_203 : decode cc_R_sendAnswer 203 = .ok (.aload_n 0, 1) := by decide +kernel
theorem dd_R_sendAnswer_204 : decode cc_R_sendAnswer 204 = .ok (.getfield 108, 3) := by decide +kernel
theorem dd_R_sendAnswer_207 : decode cc_R_sendAnswer 207 = .ok (.iload_n 1, 1) := by decide +kernel
theorem dd_R_sendAnswer_208 : decode cc_R_sendAnswer 208 = .ok (.dup2, 1) := by decide +kernel
theorem dd_R_sendAnswer_209 : decode cc_R_sendAnswer 209 = .ok (.iaload, 1) := by decide +kernel
theorem dd_R_sendAnswer_210 : decode cc_R_sendAnswer 210 = .ok (.iconst 1, 1) := by decide +kernel
theorem dd_R_sendAnswer_211 : decode cc_R_sendAnswer 211 = .ok (.isub, 1) := by decide +kernel
theorem dd_R_sendAnswer_212 : decode cc_R_sendAnswer 212 = .ok (.iastore, 1) := by decide +kernel
theorem dd_R_sendAnswer_213 : decode cc_R_sendAnswer 213 = .ok (.iconst 4, 1) := by decide +kernel
theorem dd_R_sendAnswer_214 : decode cc_R_sendAnswer 214 = .ok (.iload_n 1, 1) := by decide +kernel
theorem dd_R_sendAnswer_215 : decode cc_R_sendAnswer 215 = .ok (.imul, 1) := by decide +kernel
theorem dd_R_sendAnswer_216 : decode cc_R_sendAnswer 216 = .ok (.istore 5, 2) := by decide +kernel
theorem dd_R_sendAnswer_218 : decode cc_R_sendAnswer 218 = .ok (.iload 5, 2) := by decide +kernel
theorem dd_R_sendAnswer_220 : decode cc_R_sendAnswer 220 = .ok (.iconst 4, 1) := by decide +kernel
theorem dd_R_sendAnswer_221 : decode cc_R_sendAnswer 221 = .ok (.iload_n 1, 1) := by decide +kernel
theorem dd_R_sendAnswer_222 : decode cc_R_sendAnswer 222 = .ok (.imul, 1) := by decide +kernel
theorem dd_R_sendAnswer_223 : decode cc_R_sendAnswer 223 = .ok (.aload_n 0, 1) := by decide +kernel
theorem dd_R_sendAnswer_224 : decode cc_R_sendAnswer 224 = .ok (.getfield 108, 3) := by decide +kernel
theorem dd_R_sendAnswer_227 : decode cc_R_sendAnswer 227 = .ok (.iload_n 1, 1) := by decide +kernel
theorem dd_R_sendAnswer_228 : decode cc_R_sendAnswer 228 = .ok (.iaload, 1) := by decide +kernel
theorem dd_R_sendAnswer_229 : decode cc_R_sendAnswer 229 = .ok (.iadd, 1) := by decide +kernel
theorem dd_R_sendAnswer_230 : decode cc_R_sendAnswer 230 = .ok (.if_icmp .ge 41, 3) := by decide +kernel
theorem dd_R_sendAnswer_233 : decode cc_R_sendAnswer 233 = .ok (.aload_n 0, 1) := by decide +kernel
theorem dd_R_sendAnswer_234 : decode cc_R_sendAnswer 234 = .ok (.getfield 101, 3) := by decide +kernel
theorem dd_R_sendAnswer_237 : decode cc_R_sendAnswer 237 = .ok (.iload 5, 2) := by decide +kernel
theorem dd_R_sendAnswer_239 : decode cc_R_sendAnswer 239 = .ok (.aload_n 0, 1) := by decide +kernel
theorem dd_R_sendAnswer_240 : decode cc_R_sendAnswer 240 = .ok (.getfield 101, 3) := by decide +kernel
theorem dd_R_sendAnswer_243 : decode cc_R_sendAnswer 243 = .ok (.iload 5, 2) := by decide +kernel
theorem dd_R_sendAnswer_245 : decode cc_R_sendAnswer 245 = .ok (.iconst 1, 1) := by decide +kernel
theorem dd_R_sendAnswer_246 : decode cc_R_sendAnswer 246 = .ok (.iadd, 1) := by decide +kernel
theorem dd_R_sendAnswer_247 : decode cc_R_sendAnswer 247 = .ok (.laload, 1) := by decide +kernel
theorem dd_R_sendAnswer_248 : decode cc_R_sendAnswer 248 = .ok (.lastore, 1) := by decide +kernel
theorem dd_R_sendAnswer_249 : decode cc_R_sendAnswer 249 = .ok (.aload_n 0, 1) := by decide +kernel
theorem dd_R_sendAnswer_250 : decode cc_R_sendAnswer 250 = .ok (.getfield 105, 3) := by decide +kernel
theorem dd_R_sendAnswer_253 : decode cc_R_sendAnswer 253 = .ok (.iload 5, 2) := by decide +kernel
theorem dd_R_sendAnswer_255 : decode cc_R_sendAnswer 255 = .ok (.aload_n 0, 1) := by decide +kernel
theorem dd_R_sendAnswer_256 : decode cc_R_sendAnswer 256 = .ok (.getfield 105, 3) := by decide +kernel
theorem dd_R_sendAnswer_259 : decode cc_R_sendAnswer 259 = .ok (.iload 5, 2) := by decide +kernel
theorem dd_R_sendAnswer_261 : decode cc_R_sendAnswer 261 = .ok (.iconst 1, 1) := by decide +kernel
theorem dd_R_sendAnswer_262 : decode cc_R_sendAnswer 262 = .ok (.iadd, 1) := by decide +kernel
theorem dd_R_sendAnswer_263 : decode cc_R_sendAnswer 263 = .ok (.iaload, 1) := by decide +kernel
theorem dd_R_sendAnswer_264 : decode cc_R_sendAnswer 264 = .ok (.iastore, 1) := by decide +kernel
theorem dd_R_sendAnswer_265 : decode cc_R_sendAnswer 265 = .ok (.iinc 5 1, 3) := by decide +kernel
theorem dd_R_sendAnswer_268 : decode cc_R_sendAnswer 268 = .ok (.goto (-50), 3) := by decide +kernel
theorem dd_R_sendAnswer_271 : decode cc_R_sendAnswer 271 = .ok (.return_, 1) := by decide +kernel
theorem dd_R_tick_0 : decode cc_R_tick 0 = .ok (.iload_n 1, 1) := by decide +kernel
theorem dd_R_tick_1 : decode cc_R_tick 1 = .ok (.iconst 1, 1) := by decide +kernel
theorem dd_R_tick_2 : decode cc_R_tick 2 = .ok (.if_icmp .lt 9, 3) := by decide +kernel
theorem dd_R_tick_5 : decode cc_R_tick 5 = .ok (.iload_n 1, 1) := by decide +kernel
theorem dd_R_tick_6 : decode cc_R_tick 6 = .ok (.bipush 50, 2) := by decide +kernel
theorem dd_R_tick_8 : decode cc_R_tick 8 = .ok (.if_icmp .le 5, 3) := by decide +kernel
theorem dd_R_tick_11 : decode cc_R_tick 11 = .ok (.iconst (-1), 1) := by decide +kernel
theorem dd_R_tick_12 : decode cc_R_tick 12 = .ok (.ireturn, 1) := by decide +kernel
theorem dd_R_tick_13 : decode cc_R_tick 13 = .ok (.iconst 0, 1) := by decide +kernel
theorem dd_R_tick_14 : decode cc_R_tick 14 = .ok (.istore_n 2, 1) := by decide +kernel
theorem dd_R_tick_15 : decode cc_R_tick 15 = .ok (.iload_n 2, 1) := by decide +kernel
theorem dd_R_tick_16 : decode cc_R_tick 16 = .ok (.iload_n 1, 1) := by decide +kernel
theorem dd_R_tick_17 : decode cc_R_tick 17 = .ok (.if_icmp .ge 110, 3) := by decide +kernel
theorem dd_R_tick_20 : decode cc_R_tick 20 = .ok (.aload_n 0, 1) := by decide +kernel
theorem dd_R_tick_21 : decode cc_R_tick 21 = .ok (.dup, 1) := by decide +kernel
theorem dd_R_tick_22 : decode cc_R_tick 22 = .ok (.getfield 191, 3) := by decide +kernel
theorem dd_R_tick_25 : decode cc_R_tick 25 = .ok (.iconst 1, 1) := by decide +kernel
theorem dd_R_tick_26 : decode cc_R_tick 26 = .ok (.iadd, 1) := by decide +kernel
theorem dd_R_tick_27 : decode cc_R_tick 27 = .ok (.putfield 191, 3) := by decide +kernel
theorem dd_R_tick_30 : decode cc_R_tick 30 = .ok (.iconst 0, 1) := by decide +kernel
theorem dd_R_tick_31 : decode cc_R_tick 31 = .ok (.istore_n 3, 1) := by decide +kernel
theorem dd_R_tick_32 : decode cc_R_tick 32 = .ok (.iload_n 3, 1) := by decide +kernel
theorem dd_R_tick_33 : decode cc_R_tick 33 = .ok (.iconst 3, 1) := by decide +kernel
theorem dd_R_tick_34 : decode cc_R_tick 34 = .ok (.if_icmp .ge 69, 3) := by decide +kernel
theorem dd_R_tick_37 : decode cc_R_tick 37 = .ok (.aload_n 0, 1) := by decide +kernel
theorem dd_R_tick_38 : decode cc_R_tick 38 = .ok (.getfield 92, 3) := by decide +kernel
theorem dd_R_tick_41 : decode cc_R_tick 41 = .ok (.iload_n 3, 1) := by decide +kernel
theorem dd_R_tick_42 : decode cc_R_tick 42 = .ok (.iaload, 1) := by decide +kernel
theorem dd_R_tick_43 : decode cc_R_tick 43 = .ok (.iconst 1, 1) := by decide +kernel
theorem dd_R_tick_44 : decode cc_R_tick 44 = .ok (.if_icmp .ne 8, 3) := by decide +kernel
theorem dd_R_tick_47 : decode cc_R_tick 47 = .ok (.aload_n 0, 1) := by decide +kernel
theorem dd_R_tick_48 : decode cc_R_tick 48 = .ok (.iload_n 3, 1) := by decide +kernel
theorem dd_R_tick_49 : decode cc_R_tick 49 = .ok (.invokevirtual 275, 3) := by decide +kernel
theorem dd_R_tick_52 : decode cc_R_tick 52 = .ok (.aload_n 0, 1) := by decide +kernel
theorem dd_R_tick_53 : decode cc_R_tick 53 = .ok (.getfield 92, 3) := by decide +kernel
theorem dd_R_tick_56 : decode cc_R_tick 56 = .ok (.iload_n 3, 1) := by decide +kernel
theorem dd_R_tick_57 : decode cc_R_tick 57 = .ok (.iaload, 1) := by decide +kernel
theorem dd_R_tick_58 : decode cc_R_tick 58 = .ok (.iconst 2, 1) := by decide +kernel
theorem dd_R_tick_59 : decode cc_R_tick 59 = .ok (.if_icmp .ne 8, 3) := by decide +kernel
theorem dd_R_tick_62 : decode cc_R_tick 62 = .ok (.aload_n 0, 1) := by decide +kernel
theorem dd_R_tick_63 : decode cc_R_tick 63 = .ok (.iload_n 3, 1) := by decide +kernel
theorem dd_R_tick_64 : decode cc_R_tick 64 = .ok (.invokevirtual 278, 3) := by decide +kernel
theorem dd_R_tick_67 : decode cc_R_tick 67 = .ok (.aload_n 0, 1) := by decide +kernel
theorem dd_R_tick_68 : decode cc_R_tick 68 = .ok (.getfield 40, 3) := by decide +kernel
theorem dd_R_tick_71 : decode cc_R_tick 71 = .ok (.bipush 23, 2) := by decide +kernel
theorem dd_R_tick_73 : decode cc_R_tick 73 = .ok (.iload_n 3, 1) := by decide +kernel
theorem dd_R_tick_74 : decode cc_R_tick 74 = .ok (.iastore, 1) := by decide +kernel
theorem dd_R_tick_75 : decode cc_R_tick 75 = .ok (.aload_n 0, 1) := by decide +kernel
theorem dd_R_tick_76 : decode cc_R_tick 76 = .ok (.getfield 92, 3) := by decide +kernel
theorem dd_R_tick_79 : decode cc_R_tick 79 = .ok (.iload_n 3, 1) := by decide +kernel
theorem dd_R_tick_80 : decode cc_R_tick 80 = .ok (.iaload, 1) := by decide +kernel
theorem dd_R_tick_81 : decode cc_R_tick 81 = .ok (.ifCond .eq 9, 3) := by decide +kernel
theorem dd_R_tick_84 : decode cc_R_tick 84 = .ok (.aload_n 0, 1) := by decide +kernel
theorem dd_R_tick_85 : decode cc_R_tick 85 = .ok (.bipush 23, 2) := by decide +kernel
theorem dd_R_tick_87 : decode cc_R_tick 87 = .ok (.invokevirtual 194, 3) := by decide +kernel
theorem dd_R_tick_90 : decode cc_R_tick 90 = .ok (.aload_n 0, 1) := by decide +kernel
theorem dd_R_tick_91 : decode cc_R_tick 91 = .ok (.getfield 92, 3) := by decide +kernel
theorem dd_R_tick_94 : decode cc_R_tick 94 = .ok (.iload_n 3, 1) := by decide +kernel
theorem dd_R_tick_95 : decode cc_R_tick 95 = .ok (.iconst 0, 1) := by decide +kernel
theorem dd_R_tick_96 : decode cc_R_tick 96 = .ok (.iastore, 1) := by decide +kernel
theorem dd_R_tick_97 : decode cc_R_tick 97 = .ok (.iinc 3 1, 3) := by decide +kernel
theorem dd_R_tick_100 : decode cc_R_tick 100 = .ok (.goto (-68), 3) := by decide +kernel
theorem dd_R_tick_103 : decode cc_R_tick 103 = .ok (.iconst 0, 1) := by decide +kernel
theorem dd_R_tick_104 : decode cc_R_tick 104 = .ok (.istore_n 3, 1) := by decide +kernel
theorem dd_R_tick_105 : decode cc_R_tick 105 = .ok (.iload_n 3, 1) := by decide +kernel
theorem dd_R_tick_106 : decode cc_R_tick 106 = .ok (.iconst 3, 1) := by decide +kernel
theorem dd_R_tick_107 : decode cc_R_tick 107 = .ok (.if_icmp .ge 14, 3) := by decide +kernel
theorem dd_R_tick_110 : decode cc_R_tick 110 = .ok (.aload_n 0, 1) := by decide +kernel
theorem dd_R_tick_111 : decode cc_R_tick 111 = .ok (.iload_n 3, 1) := by decide +kernel
theorem dd_R_tick_112 : decode cc_R_tick 112 = .ok (.invokevirtual 281, 3) := by decide +kernel
theorem dd_R_tick_115 : decode cc_R_tick 115 = .ok (.iinc 3 1, 3) := by decide +kernel
theorem dd_R_tick_118 : decode cc_R_tick 118 = .ok (.goto (-13), 3) := by decide +kernel
theorem dd_R_tick_121 : decode cc_R_tick 121 = .ok (.iinc 2 1, 3) := by decide +kernel
theorem dd_R_tick_124 : decode cc_R_tick 124 = .ok (.goto (-109), 3) := by decide +kernel
theorem dd_R_tick_127 : decode cc_R_tick 127 = .ok (.aload_n 0, 1) := by decide +kernel
theorem dd_R_tick_128 : decode cc_R_tick 128 = .ok (.getfield 191, 3) := by decide +kernel
theorem dd_R_tick_131 : decode cc_R_tick 131 = .ok (.ireturn, 1) := by decide +kernel
theorem dd_R_lose_0 : decode cc_R_lose 0 = .ok (.iload_n 1, 1) := by decide +kernel
theorem dd_R_lose_1 : decode cc_R_lose 1 = .ok (.aload_n 0, 1) := by decide +kernel
theorem dd_R_lose_2 : decode cc_R_lose 2 = .ok (.getfield 168, 3) := by decide +kernel
theorem dd_R_lose_5 : decode cc_R_lose 5 = .ok (.invokestatic 197, 3) := by decide +kernel
theorem dd_R_lose_8 : decode cc_R_lose 8 = .ok (.ifCond .ne 5, 3) := by decide +kernel
theorem dd_R_lose_11 : decode cc_R_lose 11 = .ok (.iconst 0, 1) := by decide +kernel
theorem dd_R_lose_12 : decode cc_R_lose 12 = .ok (.ireturn, 1) := by decide +kernel
theorem dd_R_lose_13 : decode cc_R_lose 13 = .ok (.aload_n 0, 1) := by decide +kernel
theorem dd_R_lose_14 : decode cc_R_lose 14 = .ok (.iload_n 1, 1) := by decide +kernel
theorem dd_R_lose_15 : decode cc_R_lose 15 = .ok (.invokevirtual 246, 3) := by decide +kernel
theorem dd_R_lose_18 : decode cc_R_lose 18 = .ok (.iconst 1, 1) := by decide +kernel
theorem dd_R_lose_19 : decode cc_R_lose 19 = .ok (.ireturn, 1) := by decide +kernel
theorem dd_R_replay_0 : decode cc_R_replay 0 = .ok (.iload_n 1, 1) := by decide +kernel
theorem dd_R_replay_1 : decode cc_R_replay 1 = .ok (.bipush 8, 2) := by decide +kernel
theorem dd_R_replay_3 : decode cc_R_replay 3 = .ok (.invokestatic 197, 3) := by decide +kernel
theorem dd_R_replay_6 : decode cc_R_replay 6 = .ok (.ifCond .eq 20, 3) := by decide +kernel
theorem dd_R_replay_9 : decode cc_R_replay 9 = .ok (.iload_n 1, 1) := by decide +kernel
theorem dd_R_replay_10 : decode cc_R_replay 10 = .ok (.aload_n 0, 1) := by decide +kernel
theorem dd_R_replay_11 : decode cc_R_replay 11 = .ok (.getfield 161, 3) := by decide +kernel
theorem dd_R_replay_14 : decode cc_R_replay 14 = .ok (.if_icmp .ge 12, 3) := by decide +kernel
theorem dd_R_replay_17 : decode cc_R_replay 17 = .ok (.aload_n 0, 1) := by decide +kernel
theorem dd_R_replay_18 : decode cc_R_replay 18 = .ok (.getfield 168, 3) := by decide +kernel
theorem dd_R_replay_21 : decode cc_R_replay 21 = .ok (.bipush 12, 2) := by decide +kernel
theorem dd_R_replay_23 : decode cc_R_replay 23 = .ok (.if_icmp .ne 5, 3) := by decide +kernel
theorem dd_R_replay_26 : decode cc_R_replay 26 = .ok (.iconst 0, 1) := by decide +kernel
theorem dd_R_replay_27 : decode cc_R_replay 27 = .ok (.ireturn, 1) := by decide +kernel
theorem dd_R_replay_28 : decode cc_R_replay 28 = .ok (.aload_n 0, 1) := by decide +kernel
theorem dd_R_replay_29 : decode cc_R_replay 29 = .ok (.bipush 12, 2) := by decide +kernel
theorem dd_R_replay_31 : decode cc_R_replay 31 = .ok (.aload_n 0, 1) := by decide +kernel
theorem dd_R_replay_32 : decode cc_R_replay 32 = .ok (.getfield 161, 3) := by decide +kernel
theorem dd_R_replay_35 : decode cc_R_replay 35 = .ok (.iconst 1, 1) := by decide +kernel
theorem dd_R_replay_36 : decode cc_R_replay 36 = .ok (.isub, 1) := by decide +kernel
theorem dd_R_replay_37 : decode cc_R_replay 37 = .ok (.iload_n 1, 1) := by decide +kernel
theorem dd_R_replay_38 : decode cc_R_replay 38 = .ok (.isub, 1) := by decide +kernel
theorem dd_R_replay_39 : decode cc_R_replay 39 = .ok (.bipush 8, 2) := by decide +kernel
theorem dd_R_replay_41 : decode cc_R_replay 41 = .ok (.irem, 1) := by decide +kernel
theorem dd_R_replay_42 : decode cc_R_replay 42 = .ok (.iadd, 1) := by decide +kernel
theorem dd_R_replay_43 : decode cc_R_replay 43 = .ok (.aload_n 0, 1) := by decide +kernel
theorem dd_R_replay_44 : decode cc_R_replay 44 = .ok (.getfield 168, 3) := by decide +kernel
theorem dd_R_replay_47 : decode cc_R_replay 47 = .ok (.invokevirtual 165, 3) := by decide +kernel
theorem dd_R_replay_50 : decode cc_R_replay 50 = .ok (.aload_n 0, 1) := by decide +kernel
theorem dd_R_replay_51 : decode cc_R_replay 51 = .ok (.dup, 1) := by decide +kernel
theorem dd_R_replay_52 : decode cc_R_replay 52 = .ok (.getfield 168, 3) := by decide +kernel
theorem dd_R_replay_55 : decode cc_R_replay 55 = .ok (.iconst 1, 1) := by decide +kernel
theorem dd_R_replay_56 : decode cc_R_replay 56 = .ok (.iadd, 1) := by decide +kernel
theorem dd_R_replay_57 : decode cc_R_replay 57 = .ok (.putfield 168, 3) := by decide +kernel
theorem dd_R_replay_60 : decode cc_R_replay 60 = .ok (.iconst 1, 1) := by decide +kernel
theorem dd_R_replay_61 : decode cc_R_replay 61 = .ok (.ireturn, 1) := by decide +kernel
theorem dd_R_spoil_0 : decode cc_R_spoil 0 = .ok (.iload_n 1, 1) := by decide +kernel
theorem dd_R_spoil_1 : decode cc_R_spoil 1 = .ok (.aload_n 0, 1) := by decide +kernel
theorem dd_R_spoil_2 : decode cc_R_spoil 2 = .ok (.getfield 168, 3) := by decide +kernel
theorem dd_R_spoil_5 : decode cc_R_spoil 5 = .ok (.invokestatic 197, 3) := by decide +kernel
theorem dd_R_spoil_8 : decode cc_R_spoil 8 = .ok (.ifCond .eq 28, 3) := by decide +kernel
theorem dd_R_spoil_11 : decode cc_R_spoil 11 = .ok (.iload_n 2, 1) := by decide +kernel
theorem dd_R_spoil_12 : decode cc_R_spoil 12 = .ok (.aload_n 0, 1) := by decide +kernel
theorem dd_R_spoil_13 : decode cc_R_spoil 13 = .ok (.getfield 37, 3) := by decide +kernel
theorem dd_R_spoil_16 : decode cc_R_spoil 16 = .ok (.iload_n 1, 1) := by decide +kernel
theorem dd_R_spoil_17 : decode cc_R_spoil 17 = .ok (.iaload, 1) := by decide +kernel
theorem dd_R_spoil_18 : decode cc_R_spoil 18 = .ok (.invokestatic 197, 3) := by decide +kernel
theorem dd_R_spoil_21 : decode cc_R_spoil 21 = .ok (.ifCond .eq 15, 3) := by decide +kernel
theorem dd_R_spoil_24 : decode cc_R_spoil 24 = .ok (.iload_n 3, 1) := by decide +kernel
theorem dd_R_spoil_25 : decode cc_R_spoil 25 = .ok (.iconst 1, 1) := by decide +kernel
theorem dd_R_spoil_26 : decode cc_R_spoil 26 = .ok (.if_icmp .lt 10, 3) := by decide +kernel
theorem dd_R_spoil_29 : decode cc_R_spoil 29 = .ok (.iload_n 3, 1) := by decide +kernel
theorem dd_R_spoil_30 : decode cc_R_spoil 30 = .ok (.sipush 255, 3) := by decide +kernel
theorem dd_R_spoil_33 : decode cc_R_spoil 33 = .ok (.if_icmp .le 5, 3) := by decide +kernel
theorem dd_R_spoil_36 : decode cc_R_spoil 36 = .ok (.iconst 0, 1) := by decide +kernel
theorem dd_R_spoil_37 : decode cc_R_spoil 37 = .ok (.ireturn, 1) := by decide +kernel
theorem dd_R_spoil_38 : decode cc_R_spoil 38 = .ok (.aload_n 0, 1) := by decide +kernel
theorem dd_R_spoil_39 : decode cc_R_spoil 39 = .ok (.getfield 34, 3) := by decide +kernel
theorem dd_R_spoil_42 : decode cc_R_spoil 42 = .ok (.bipush 32, 2) := by decide +kernel
theorem dd_R_spoil_44 : decode cc_R_spoil 44 = .ok (.iload_n 1, 1) := by decide +kernel
theorem dd_R_spoil_45 : decode cc_R_spoil 45 = .ok (.imul, 1) := by decide +kernel
theorem dd_R_spoil_46 : decode cc_R_spoil 46 = .ok (.iload_n 2, 1) := by decide +kernel
theorem dd_R_spoil_47 : decode cc_R_spoil 47 = .ok (.iadd, 1) := by decide +kernel
theorem dd_R_spoil_48 : decode cc_R_spoil 48 = .ok (.aload_n 0, 1) := by decide +kernel
theorem dd_R_spoil_49 : decode cc_R_spoil 49 = .ok (.getfield 34, 3) := by decide +kernel
theorem dd_R_spoil_52 : decode cc_R_spoil 52 = .ok (.bipush 32, 2) := by decide +kernel
theorem dd_R_spoil_54 : decode cc_R_spoil 54 = .ok (.iload_n 1, 1) := by decide +kernel
theorem dd_R_spoil_55 : decode cc_R_spoil 55 = .ok (.imul, 1) := by decide +kernel
theorem dd_R_spoil_56 : decode cc_R_spoil 56 = .ok (.iload_n 2, 1) := by decide +kernel
theorem dd_R_spoil_57 : decode cc_R_spoil 57 = .ok (.iadd, 1) := by decide +kernel
theorem dd_R_spoil_58 : decode cc_R_spoil 58 = .ok (.iaload, 1) := by decide +kernel
theorem dd_R_spoil_59 : decode cc_R_spoil 59 = .ok (.iload_n 3, 1) := by decide +kernel
theorem dd_R_spoil_60 : decode cc_R_spoil 60 = .ok (.ixor, 1) := by decide +kernel
theorem dd_R_spoil_61 : decode cc_R_spoil 61 = .ok (.iastore, 1) := by decide +kernel
theorem dd_R_spoil_62 : decode cc_R_spoil 62 = .ok (.iconst 1, 1) := by decide +kernel
theorem dd_R_spoil_63 : decode cc_R_spoil 63 = .ok (.ireturn, 1) := by decide +kernel
theorem dd_R_frames_0 : decode cc_R_frames 0 = .ok (.aload_n 0, 1) := by decide +kernel
theorem dd_R_frames_1 : decode cc_R_frames 1 = .ok (.getfield 168, 3) := by decide +kernel
theorem dd_R_frames_4 : decode cc_R_frames 4 = .ok (.ireturn, 1) := by decide +kernel
theorem dd_R_length_0 : decode cc_R_length 0 = .ok (.iload_n 1, 1) := by decide +kernel
theorem dd_R_length_1 : decode cc_R_length 1 = .ok (.aload_n 0, 1) := by decide +kernel
theorem dd_R_length_2 : decode cc_R_length 2 = .ok (.getfield 168, 3) := by decide +kernel
theorem dd_R_length_5 : decode cc_R_length 5 = .ok (.invokestatic 197, 3) := by decide +kernel
theorem dd_R_length_8 : decode cc_R_length 8 = .ok (.ifCond .eq 12, 3) := by decide +kernel
theorem dd_R_length_11 : decode cc_R_length 11 = .ok (.aload_n 0, 1) := by decide +kernel
theorem dd_R_length_12 : decode cc_R_length 12 = .ok (.getfield 37, 3) := by decide +kernel
theorem dd_R_length_15 : decode cc_R_length 15 = .ok (.iload_n 1, 1) := by decide +kernel
theorem dd_R_length_16 : decode cc_R_length 16 = .ok (.iaload, 1) := by decide +kernel
theorem dd_R_length_17 : decode cc_R_length 17 = .ok (.goto 4, 3) := by decide +kernel
theorem dd_R_length_20 : decode cc_R_length 20 = .ok (.iconst (-1), 1) := by decide +kernel
theorem dd_R_length_21 : decode cc_R_length 21 = .ok (.ireturn, 1) := by decide +kernel
theorem dd_R_octet_0 : decode cc_R_octet 0 = .ok (.iload_n 1, 1) := by decide +kernel
theorem dd_R_octet_1 : decode cc_R_octet 1 = .ok (.aload_n 0, 1) := by decide +kernel
theorem dd_R_octet_2 : decode cc_R_octet 2 = .ok (.getfield 168, 3) := by decide +kernel
theorem dd_R_octet_5 : decode cc_R_octet 5 = .ok (.invokestatic 197, 3) := by decide +kernel
theorem dd_R_octet_8 : decode cc_R_octet 8 = .ok (.ifCond .eq 25, 3) := by decide +kernel
theorem dd_R_octet_11 : decode cc_R_octet 11 = .ok (.iload_n 2, 1) := by decide +kernel
theorem dd_R_octet_12 : decode cc_R_octet 12 = .ok (.aload_n 0, 1) := by decide +kernel
theorem dd_R_octet_13 : decode cc_R_octet 13 = .ok (.getfield 37, 3) := by decide +kernel
theorem dd_R_octet_16 : decode cc_R_octet 16 = .ok (.iload_n 1, 1) := by decide +kernel
theorem dd_R_octet_17 : decode cc_R_octet 17 = .ok (.iaload, 1) := by decide +kernel
theorem dd_R_octet_18 : decode cc_R_octet 18 = .ok (.invokestatic 197, 3) := by decide +kernel
theorem dd_R_octet_21 : decode cc_R_octet 21 = .ok (.ifCond .eq 12, 3) := by decide +kernel
theorem dd_R_octet_24 : decode cc_R_octet 24 = .ok (.aload_n 0, 1) := by decide +kernel
theorem dd_R_octet_25 : decode cc_R_octet 25 = .ok (.iload_n 1, 1) := by decide +kernel
theorem dd_R_octet_26 : decode cc_R_octet 26 = .ok (.iload_n 2, 1) := by decide +kernel
theorem dd_R_octet_27 : decode cc_R_octet 27 = .ok (.invokevirtual 158, 3) := by decide +kernel
theorem dd_R_octet_30 : decode cc_R_octet 30 = .ok (.goto 4, 3) := by decide +kernel
theorem dd_R_octet_33 : decode cc_R_octet 33 = .ok (.iconst (-1), 1) := by decide +kernel
theorem dd_R_octet_34 : decode cc_R_octet 34 = .ok (.ireturn, 1) := by decide +kernel
theorem dd_R_goal_0 : decode cc_R_goal 0 = .ok (.iload_n 1, 1) := by decide +kernel
theorem dd_R_goal_1 : decode cc_R_goal 1 = .ok (.aload_n 0, 1) := by decide +kernel
theorem dd_R_goal_2 : decode cc_R_goal 2 = .ok (.getfield 168, 3) := by decide +kernel
theorem dd_R_goal_5 : decode cc_R_goal 5 = .ok (.invokestatic 197, 3) := by decide +kernel
theorem dd_R_goal_8 : decode cc_R_goal 8 = .ok (.ifCond .eq 12, 3) := by decide +kernel
theorem dd_R_goal_11 : decode cc_R_goal 11 = .ok (.aload_n 0, 1) := by decide +kernel
theorem dd_R_goal_12 : decode cc_R_goal 12 = .ok (.getfield 40, 3) := by decide +kernel
theorem dd_R_goal_15 : decode cc_R_goal 15 = .ok (.iload_n 1, 1) := by decide +kernel
theorem dd_R_goal_16 : decode cc_R_goal 16 = .ok (.iaload, 1) := by decide +kernel
theorem dd_R_goal_17 : decode cc_R_goal 17 = .ok (.goto 4, 3) := by decide +kernel
theorem dd_R_goal_20 : decode cc_R_goal 20 = .ok (.iconst (-1), 1) := by decide +kernel
theorem dd_R_goal_21 : decode cc_R_goal 21 = .ok (.ireturn, 1) := by decide +kernel
theorem dd_R_state_0 : decode cc_R_state 0 = .ok (.iload_n 1, 1) := by decide +kernel
theorem dd_R_state_1 : decode cc_R_state 1 = .ok (.iconst 3, 1) := by decide +kernel
theorem dd_R_state_2 : decode cc_R_state 2 = .ok (.invokestatic 197, 3) := by decide +kernel
theorem dd_R_state_5 : decode cc_R_state 5 = .ok (.ifCond .eq 28, 3) := by decide +kernel
theorem dd_R_state_8 : decode cc_R_state 8 = .ok (.aload_n 0, 1) := by decide +kernel
theorem dd_R_state_9 : decode cc_R_state 9 = .ok (.getfield 43, 3) := by decide +kernel
theorem dd_R_state_12 : decode cc_R_state 12 = .ok (.iload_n 1, 1) := by decide +kernel
theorem dd_R_state_13 : decode cc_R_state 13 = .ok (.iaload, 1) := by decide +kernel
theorem dd_R_state_14 : decode cc_R_state 14 = .ok (.aload_n 0, 1) := by decide +kernel
theorem dd_R_state_15 : decode cc_R_state 15 = .ok (.getfield 46, 3) := by decide +kernel
theorem dd_R_state_18 : decode cc_R_state 18 = .ok (.iload_n 1, 1) := by decide +kernel
theorem dd_R_state_19 : decode cc_R_state 19 = .ok (.baload, 1) := by decide +kernel
theorem dd_R_state_20 : decode cc_R_state 20 = .ok (.ifCond .eq 8, 3) := by decide +kernel
theorem dd_R_state_23 : decode cc_R_state 23 = .ok (.bipush 10, 2) := by decide +kernel
theorem dd_R_state_25 : decode cc_R_state 25 = .ok (.goto 4, 3) := by decide +kernel
theorem dd_R_state_28 : decode cc_R_state 28 = .ok (.iconst 0, 1) := by decide +kernel
theorem dd_R_state_29 : decode cc_R_state 29 = .ok (.iadd, 1) := by decide +kernel
theorem dd_R_state_30 : decode cc_R_state 30 = .ok (.goto 4, 3) := by decide +kernel
theorem dd_R_state_33 : decode cc_R_state 33 = .ok (.iconst (-1), 1) := by decide +kernel
theorem dd_R_state_34 : decode cc_R_state 34 = .ok (.ireturn, 1) := by decide +kernel
theorem dd_R_received_0 : decode cc_R_received 0 = .ok (.iload_n 1, 1) := by decide +kernel
theorem dd_R_received_1 : decode cc_R_received 1 = .ok (.iconst 3, 1) := by decide +kernel
theorem dd_R_received_2 : decode cc_R_received 2 = .ok (.invokestatic 197, 3) := by decide +kernel
theorem dd_R_received_5 : decode cc_R_received 5 = .ok (.ifCond .eq 22, 3) := by decide +kernel
theorem dd_R_received_8 : decode cc_R_received 8 = .ok (.aload_n 0, 1) := by decide +kernel
theorem dd_R_received_9 : decode cc_R_received 9 = .ok (.getfield 111, 3) := by decide +kernel
theorem dd_R_received_12 : decode cc_R_received 12 = .ok (.iload_n 2, 1) := by decide +kernel
theorem dd_R_received_13 : decode cc_R_received 13 = .ok (.ifCond .eq 7, 3) := by decide +kernel
theorem dd_R_received_16 : decode cc_R_received 16 = .ok (.iload_n 1, 1) := by decide +kernel
theorem dd_R_received_17 : decode cc_R_received 17 = .ok (.goto 6, 3) := by decide +kernel
theorem dd_R_received_20 : decode cc_R_received 20 = .ok (.iconst 3, 1) := by decide +kernel
theorem dd_R_received_21 : decode cc_R_received 21 = .ok (.iload_n 1, 1) := by decide +kernel
theorem dd_R_received_22 : decode cc_R_received 22 = .ok (.iadd, 1) := by decide +kernel
theorem dd_R_received_23 : decode cc_R_received 23 = .ok (.iaload, 1) := by decide +kernel
theorem dd_R_received_24 : decode cc_R_received 24 = .ok (.goto 4, 3) := by decide +kernel
theorem dd_R_received_27 : decode cc_R_received 27 = .ok (.iconst (-1), 1) := by decide +kernel
theorem dd_R_received_28 : decode cc_R_received 28 = .ok (.ireturn, 1) := by decide +kernel
theorem dd_R_payload_0 : decode cc_R_payload 0 = .ok (.iload_n 2, 1) := by decide +kernel
theorem dd_R_payload_1 : decode cc_R_payload 1 = .ok (.ifCond .eq 7, 3) := by decide +kernel
theorem dd_R_payload_4 : decode cc_R_payload 4 = .ok (.iload_n 1, 1) := by decide +kernel
theorem dd_R_payload_5 : decode cc_R_payload 5 = .ok (.goto 6, 3) := by decide +kernel
theorem dd_R_payload_8 : decode cc_R_payload 8 = .ok (.iconst 3, 1) := by decide +kernel
theorem dd_R_payload_9 : decode cc_R_payload 9 = .ok (.iload_n 1, 1) := by decide +kernel
theorem dd_R_payload_10 : decode cc_R_payload 10 = .ok (.iadd, 1) := by decide +kernel
theorem dd_R_payload_11 : decode cc_R_payload 11 = .ok (.istore 4, 2) := by decide +kernel
theorem dd_R_payload_13 : decode cc_R_payload 13 = .ok (.iload_n 1, 1) := by decide +kernel
theorem dd_R_payload_14 : decode cc_R_payload 14 = .ok (.iconst 3, 1) := by decide +kernel
theorem dd_R_payload_15 : decode cc_R_payload 15 = .ok (.invokestatic 197, 3) := by decide +kernel
theorem dd_R_payload_18 : decode cc_R_payload 18 = .ok (.ifCond .eq 30, 3) := by decide +kernel
theorem dd_R_payload_21 : decode cc_R_payload 21 = .ok (.iload_n 3, 1) := by decide +kernel
theorem dd_R_payload_22 : decode cc_R_payload 22 = .ok (.aload_n 0, 1) := by decide +kernel
theorem dd_R_payload_23 : decode cc_R_payload 23 = .ok (.getfield 111, 3) := by decide +kernel
theorem dd_R_payload_26 : decode cc_R_payload 26 = .ok (.iload 4, 2) := by decide +kernel
theorem dd_R_payload_28 : decode cc_R_payload 28 = .ok (.iaload, 1) := by decide +kernel
theorem dd_R_payload_29 : decode cc_R_payload 29 = .ok (.invokestatic 197, 3) := by decide +kernel
theorem dd_R_payload_32 : decode cc_R_payload 32 = .ok (.ifCond .eq 16, 3) := by decide +kernel
theorem dd_R_payload_35 : decode cc_R_payload 35 = .ok (.iload_n 3, 1) := by decide +kernel
theorem dd_R_payload_36 : decode cc_R_payload 36 = .ok (.aload_n 0, 1) := by decide +kernel
theorem dd_R_payload_37 : decode cc_R_payload 37 = .ok (.getfield 111, 3) := by decide +kernel
theorem dd_R_payload_40 : decode cc_R_payload 40 = .ok (.iload 4, 2) := by decide +kernel
theorem dd_R_payload_42 : decode cc_R_payload 42 = .ok (.iaload, 1) := by decide +kernel
theorem dd_R_payload_43 : decode cc_R_payload 43 = .ok (.iconst 4, 1) := by decide +kernel
theorem dd_R_payload_44 : decode cc_R_payload 44 = .ok (.isub, 1) := by decide +kernel
theorem dd_R_payload_45 : decode cc_R_payload 45 = .ok (.if_icmp .ge 7, 3) := by decide +kernel
theorem dd_R_payload_48 : decode cc_R_payload 48 = .ok (.ldc2_w 284, 3) := by decide +kernel
theorem dd_R_payload_51 : decode cc_R_payload 51 = .ok (.lreturn, 1) := by decide +kernel
theorem dd_R_payload_52 : decode cc_R_payload 52 = .ok (.aload_n 0, 1) := by decide +kernel
theorem dd_R_payload_53 : decode cc_R_payload 53 = .ok (.getfield 114, 3) := by decide +kernel
theorem dd_R_payload_56 : decode cc_R_payload 56 = .ok (.iconst 4, 1) := by decide +kernel
theorem dd_R_payload_57 : decode cc_R_payload 57 = .ok (.iload 4, 2) := by decide +kernel
theorem dd_R_payload_59 : decode cc_R_payload 59 = .ok (.imul, 1) := by decide +kernel
theorem dd_R_payload_60 : decode cc_R_payload 60 = .ok (.iload_n 3, 1) := by decide +kernel
theorem dd_R_payload_61 : decode cc_R_payload 61 = .ok (.iconst 4, 1) := by decide +kernel
theorem dd_R_payload_62 : decode cc_R_payload 62 = .ok (.irem, 1) := by decide +kernel
theorem dd_R_payload_63 : decode cc_R_payload 63 = .ok (.iadd, 1) := by decide +kernel
theorem dd_R_payload_64 : decode cc_R_payload 64 = .ok (.laload, 1) := by decide +kernel
theorem dd_R_payload_65 : decode cc_R_payload 65 = .ok (.lreturn, 1) := by decide +kernel
