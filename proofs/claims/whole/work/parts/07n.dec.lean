theorem dd_S_layFirstBlock_0 : decode cc_S_layFirstBlock 0 = .ok (.aload_n 0, 1) := by decide +kernel
theorem dd_S_layFirstBlock_1 : decode cc_S_layFirstBlock 1 = .ok (.getfield 27, 3) := by decide +kernel
theorem dd_S_layFirstBlock_4 : decode cc_S_layFirstBlock 4 = .ok (.iconst 0, 1) := by decide +kernel
theorem dd_S_layFirstBlock_5 : decode cc_S_layFirstBlock 5 = .ok (.invokestatic 87, 3) := by decide +kernel
theorem dd_S_layFirstBlock_8 : decode cc_S_layFirstBlock 8 = .ok (.aload_n 0, 1) := by decide +kernel
theorem dd_S_layFirstBlock_9 : decode cc_S_layFirstBlock 9 = .ok (.getfield 27, 3) := by decide +kernel
theorem dd_S_layFirstBlock_12 : decode cc_S_layFirstBlock 12 = .ok (.iconst 0, 1) := by decide +kernel
theorem dd_S_layFirstBlock_13 : decode cc_S_layFirstBlock 13 = .ok (.iload_n 1, 1) := by decide +kernel
theorem dd_S_layFirstBlock_14 : decode cc_S_layFirstBlock 14 = .ok (.iastore, 1) := by decide +kernel
theorem dd_S_layFirstBlock_15 : decode cc_S_layFirstBlock 15 = .ok (.aload_n 0, 1) := by decide +kernel
theorem dd_S_layFirstBlock_16 : decode cc_S_layFirstBlock 16 = .ok (.getfield 27, 3) := by decide +kernel
theorem dd_S_layFirstBlock_19 : decode cc_S_layFirstBlock 19 = .ok (.iconst 5, 1) := by decide +kernel
theorem dd_S_layFirstBlock_20 : decode cc_S_layFirstBlock 20 = .ok (.iload_n 2, 1) := by decide +kernel
theorem dd_S_layFirstBlock_21 : decode cc_S_layFirstBlock 21 = .ok (.iastore, 1) := by decide +kernel
theorem dd_S_layFirstBlock_22 : decode cc_S_layFirstBlock 22 = .ok (.aload_n 0, 1) := by decide +kernel
theorem dd_S_layFirstBlock_23 : decode cc_S_layFirstBlock 23 = .ok (.getfield 27, 3) := by decide +kernel
theorem dd_S_layFirstBlock_26 : decode cc_S_layFirstBlock 26 = .ok (.bipush 6, 2) := by decide +kernel
theorem dd_S_layFirstBlock_28 : decode cc_S_layFirstBlock 28 = .ok (.aload_n 0, 1) := by decide +kernel
theorem dd_S_layFirstBlock_29 : decode cc_S_layFirstBlock 29 = .ok (.getfield 34, 3) := by decide +kernel
theorem dd_S_layFirstBlock_32 : decode cc_S_layFirstBlock 32 = .ok (.iconst 4, 1) := by decide +kernel
theorem dd_S_layFirstBlock_33 : decode cc_S_layFirstBlock 33 = .ok (.invokestatic 93, 3) := by decide +kernel
theorem dd_S_layFirstBlock_36 : decode cc_S_layFirstBlock 36 = .ok (.aload_n 0, 1) := by decide +kernel
theorem dd_S_layFirstBlock_37 : decode cc_S_layFirstBlock 37 = .ok (.getfield 27, 3) := by decide +kernel
theorem dd_S_layFirstBlock_40 : decode cc_S_layFirstBlock 40 = .ok (.bipush 10, 2) := by decide +kernel
theorem dd_S_layFirstBlock_42 : decode cc_S_layFirstBlock 42 = .ok (.iload_n 3, 1) := by decide +kernel
theorem dd_S_layFirstBlock_43 : decode cc_S_layFirstBlock 43 = .ok (.iconst 4, 1) := by decide +kernel
theorem dd_S_layFirstBlock_44 : decode cc_S_layFirstBlock 44 = .ok (.invokestatic 93, 3) := by decide +kernel
theorem dd_S_layFirstBlock_47 : decode cc_S_layFirstBlock 47 = .ok (.aload_n 0, 1) := by decide +kernel
theorem dd_S_layFirstBlock_48 : decode cc_S_layFirstBlock 48 = .ok (.getfield 27, 3) := by decide +kernel
theorem dd_S_layFirstBlock_51 : decode cc_S_layFirstBlock 51 = .ok (.bipush 15, 2) := by decide +kernel
theorem dd_S_layFirstBlock_53 : decode cc_S_layFirstBlock 53 = .ok (.iload 4, 2) := by decide +kernel
theorem dd_S_layFirstBlock_55 : decode cc_S_layFirstBlock 55 = .ok (.iastore, 1) := by decide +kernel
theorem dd_S_layFirstBlock_56 : decode cc_S_layFirstBlock 56 = .ok (.return_, 1) := by decide +kernel
theorem dd_S_stream_0 : decode cc_S_stream 0 = .ok (.aload_n 0, 1) := by decide +kernel
theorem dd_S_stream_1 : decode cc_S_stream 1 = .ok (.iconst 1, 1) := by decide +kernel
theorem dd_S_stream_2 : decode cc_S_stream 2 = .ok (.iload_n 1, 1) := by decide +kernel
theorem dd_S_stream_3 : decode cc_S_stream 3 = .ok (.iload_n 2, 1) := by decide +kernel
theorem dd_S_stream_4 : decode cc_S_stream 4 = .ok (.iconst 1, 1) := by decide +kernel
theorem dd_S_stream_5 : decode cc_S_stream 5 = .ok (.invokevirtual 100, 3) := by decide +kernel
theorem dd_S_stream_8 : decode cc_S_stream 8 = .ok (.aload_n 0, 1) := by decide +kernel
theorem dd_S_stream_9 : decode cc_S_stream 9 = .ok (.getfield 21, 3) := by decide +kernel
theorem dd_S_stream_12 : decode cc_S_stream 12 = .ok (.aload_n 0, 1) := by decide +kernel
theorem dd_S_stream_13 : decode cc_S_stream 13 = .ok (.getfield 27, 3) := by decide +kernel
theorem dd_S_stream_16 : decode cc_S_stream 16 = .ok (.iconst 0, 1) := by decide +kernel
theorem dd_S_stream_17 : decode cc_S_stream 17 = .ok (.invokevirtual 97, 3) := by decide +kernel
theorem dd_S_stream_20 : decode cc_S_stream 20 = .ok (.aload_n 0, 1) := by decide +kernel
theorem dd_S_stream_21 : decode cc_S_stream 21 = .ok (.getfield 27, 3) := by decide +kernel
theorem dd_S_stream_24 : decode cc_S_stream 24 = .ok (.iconst 0, 1) := by decide +kernel
theorem dd_S_stream_25 : decode cc_S_stream 25 = .ok (.iconst 4, 1) := by decide +kernel
theorem dd_S_stream_26 : decode cc_S_stream 26 = .ok (.invokestatic 72, 3) := by decide +kernel
theorem dd_S_stream_29 : decode cc_S_stream 29 = .ok (.i2l, 1) := by decide +kernel
theorem dd_S_stream_30 : decode cc_S_stream 30 = .ok (.ldc2_w 110, 3) := by decide +kernel
theorem dd_S_stream_33 : decode cc_S_stream 33 = .ok (.land, 1) := by decide +kernel
theorem dd_S_stream_34 : decode cc_S_stream 34 = .ok (.lstore_n 3, 1) := by decide +kernel
theorem dd_S_stream_35 : decode cc_S_stream 35 = .ok (.aload_n 0, 1) := by decide +kernel
theorem dd_S_stream_36 : decode cc_S_stream 36 = .ok (.getfield 27, 3) := by decide +kernel
theorem dd_S_stream_39 : decode cc_S_stream 39 = .ok (.iconst 4, 1) := by decide +kernel
theorem dd_S_stream_40 : decode cc_S_stream 40 = .ok (.iconst 4, 1) := by decide +kernel
theorem dd_S_stream_41 : decode cc_S_stream 41 = .ok (.invokestatic 72, 3) := by decide +kernel
theorem dd_S_stream_44 : decode cc_S_stream 44 = .ok (.i2l, 1) := by decide +kernel
theorem dd_S_stream_45 : decode cc_S_stream 45 = .ok (.bipush 32, 2) := by decide +kernel
theorem dd_S_stream_47 : decode cc_S_stream 47 = .ok (.lshl, 1) := by decide +kernel
theorem dd_S_stream_48 : decode cc_S_stream 48 = .ok (.lload_n 3, 1) := by decide +kernel
theorem dd_S_stream_49 : decode cc_S_stream 49 = .ok (.lor, 1) := by decide +kernel
theorem dd_S_stream_50 : decode cc_S_stream 50 = .ok (.lreturn, 1) := by decide +kernel
theorem dd_L_cell_0 : decode cc_L_cell 0 = .ok (.iload_n 1, 1) := by decide +kernel
theorem dd_L_cell_1 : decode cc_L_cell 1 = .ok (.aload_n 0, 1) := by decide +kernel
theorem dd_L_cell_2 : decode cc_L_cell 2 = .ok (.arraylength, 1) := by decide +kernel
theorem dd_L_cell_3 : decode cc_L_cell 3 = .ok (.if_icmp .ge 9, 3) := by decide +kernel
theorem dd_L_cell_6 : decode cc_L_cell 6 = .ok (.aload_n 0, 1) := by decide +kernel
theorem dd_L_cell_7 : decode cc_L_cell 7 = .ok (.iload_n 1, 1) := by decide +kernel
theorem dd_L_cell_8 : decode cc_L_cell 8 = .ok (.iaload, 1) := by decide +kernel
theorem dd_L_cell_9 : decode cc_L_cell 9 = .ok (.goto 4, 3) := by decide +kernel
theorem dd_L_cell_12 : decode cc_L_cell 12 = .ok (.iconst 0, 1) := by decide +kernel
theorem dd_L_cell_13 : decode cc_L_cell 13 = .ok (.ireturn, 1) := by decide +kernel
theorem dd_L_law_0 : decode code 0 = .ok (.new 7, 3) := by decide +kernel
theorem dd_L_law_3 : decode code 3 = .ok (.dup, 1) := by decide +kernel
theorem dd_L_law_4 : decode code 4 = .ok (.aload_n 0, 1) := by decide +kernel
theorem dd_L_law_5 : decode code 5 = .ok (.iconst 0, 1) := by decide +kernel
theorem dd_L_law_6 : decode code 6 = .ok (.invokestatic 9, 3) := by decide +kernel
theorem dd_L_law_9 : decode code 9 = .ok (.invokespecial 15, 3) := by decide +kernel
theorem dd_L_law_12 : decode code 12 = .ok (.astore_n 1, 1) := by decide +kernel
theorem dd_L_law_13 : decode code 13 = .ok (.new 18, 3) := by decide +kernel
theorem dd_L_law_16 : decode code 16 = .ok (.dup, 1) := by decide +kernel
theorem dd_L_law_17 : decode code 17 = .ok (.aload_n 0, 1) := by decide +kernel
theorem dd_L_law_18 : decode code 18 = .ok (.iconst 0, 1) := by decide +kernel
theorem dd_L_law_19 : decode code 19 = .ok (.invokestatic 9, 3) := by decide +kernel
theorem dd_L_law_22 : decode code 22 = .ok (.invokespecial 20, 3) := by decide +kernel
theorem dd_L_law_25 : decode code 25 = .ok (.astore_n 2, 1) := by decide +kernel
theorem dd_L_law_26 : decode code 26 = .ok (.iconst 1, 1) := by decide +kernel
theorem dd_L_law_27 : decode code 27 = .ok (.istore_n 3, 1) := by decide +kernel
theorem dd_L_law_28 : decode code 28 = .ok (.iload_n 3, 1) := by decide +kernel
theorem dd_L_law_29 : decode code 29 = .ok (.aload_n 0, 1) := by decide +kernel
theorem dd_L_law_30 : decode code 30 = .ok (.arraylength, 1) := by decide +kernel
theorem dd_L_law_31 : decode code 31 = .ok (.bipush 7, 2) := by decide +kernel
theorem dd_L_law_33 : decode code 33 = .ok (.isub, 1) := by decide +kernel
theorem dd_L_law_34 : decode code 34 = .ok (.if_icmp .gt 781, 3) := by decide +kernel
theorem dd_L_law_37 : decode code 37 = .ok (.aload_n 0, 1) := by decide +kernel
theorem dd_L_law_38 : decode code 38 = .ok (.iload_n 3, 1) := by decide +kernel
theorem dd_L_law_39 : decode code 39 = .ok (.iaload, 1) := by decide +kernel
theorem dd_L_law_40 : decode code 40 = .ok (.bipush 31, 2) := by decide +kernel
theorem dd_L_law_42 : decode code 42 = .ok (.iand, 1) := by decide +kernel
theorem dd_L_law_43 : decode code 43 = .ok (.tableswitch 766 0 17 #[85, 108, 235, 268, 341, 364, 397, 420, 443, 466, 509, 522, 545, 578, 601, 624, 673, 733], 85) := by decide +kernel
theorem dd_L_law_128 : decode code 128 = .ok (.aload_n 1, 1) := by decide +kernel
theorem dd_L_law_129 : decode code 129 = .ok (.aload_n 0, 1) := by decide +kernel
theorem dd_L_law_130 : decode code 130 = .ok (.iload_n 3, 1) := by decide +kernel
theorem dd_L_law_131 : decode code 131 = .ok (.iconst 1, 1) := by decide +kernel
theorem dd_L_law_132 : decode code 132 = .ok (.iadd, 1) := by decide +kernel
theorem dd_L_law_133 : decode code 133 = .ok (.iaload, 1) := by decide +kernel
theorem dd_L_law_134 : decode code 134 = .ok (.invokevirtual 21, 3) := by decide +kernel
theorem dd_L_law_137 : decode code 137 = .ok (.aload_n 2, 1) := by decide +kernel
theorem dd_L_law_138 : decode code 138 = .ok (.aload_n 0, 1) := by decide +kernel
theorem dd_L_law_139 : decode code 139 = .ok (.iload_n 3, 1) := by decide +kernel
theorem dd_L_law_140 : decode code 140 = .ok (.iconst 1, 1) := by decide +kernel
theorem dd_L_law_141 : decode code 141 = .ok (.iadd, 1) := by decide +kernel
theorem dd_L_law_142 : decode code 142 = .ok (.iaload, 1) := by decide +kernel
theorem dd_L_law_143 : decode code 143 = .ok (.invokevirtual 25, 3) := by decide +kernel
theorem dd_L_law_146 : decode code 146 = .ok (.if_icmp .eq 663, 3) := by decide +kernel
theorem dd_L_law_149 : decode code 149 = .ok (.iconst 0, 1) := by decide +kernel
theorem dd_L_law_150 : decode code 150 = .ok (.ireturn, 1) := by decide +kernel
theorem dd_L_law_151 : decode code 151 = .ok (.aload_n 1, 1) := by decide +kernel
theorem dd_L_law_152 : decode code 152 = .ok (.aload_n 0, 1) := by decide +kernel
theorem dd_L_law_153 : decode code 153 = .ok (.iload_n 3, 1) := by decide +kernel
theorem dd_L_law_154 : decode code 154 = .ok (.iconst 1, 1) := by decide +kernel
theorem dd_L_law_155 : decode code 155 = .ok (.iadd, 1) := by decide +kernel
theorem dd_L_law_156 : decode code 156 = .ok (.iaload, 1) := by decide +kernel
theorem dd_L_law_157 : decode code 157 = .ok (.aload_n 0, 1) := by decide +kernel
theorem dd_L_law_158 : decode code 158 = .ok (.iload_n 3, 1) := by decide +kernel
theorem dd_L_law_159 : decode code 159 = .ok (.iconst 2, 1) := by decide +kernel
theorem dd_L_law_160 : decode code 160 = .ok (.iadd, 1) := by decide +kernel
theorem dd_L_law_161 : decode code 161 = .ok (.iaload, 1) := by decide +kernel
theorem dd_L_law_162 : decode code 162 = .ok (.i2l, 1) := by decide +kernel
theorem dd_L_law_163 : decode code 163 = .ok (.bipush 32, 2) := by decide +kernel
theorem dd_L_law_165 : decode code 165 = .ok (.lshl, 1) := by decide +kernel
theorem dd_L_law_166 : decode code 166 = .ok (.aload_n 0, 1) := by decide +kernel
theorem dd_L_law_167 : decode code 167 = .ok (.iload_n 3, 1) := by decide +kernel
theorem dd_L_law_168 : decode code 168 = .ok (.iconst 3, 1) := by decide +kernel
theorem dd_L_law_169 : decode code 169 = .ok (.iadd, 1) := by decide +kernel
theorem dd_L_law_170 : decode code 170 = .ok (.iaload, 1) := by decide +kernel
theorem dd_L_law_171 : decode code 171 = .ok (.i2l, 1) := by decide +kernel
theorem dd_L_law_172 : decode code 172 = .ok (.ldc2_w 26, 3) := by decide +kernel
theorem dd_L_law_175 : decode code 175 = .ok (.land, 1) := by decide +kernel
theorem dd_L_law_176 : decode code 176 = .ok (.lor, 1) := by decide +kernel
theorem dd_L_law_177 : decode code 177 = .ok (.aload_n 0, 1) := by decide +kernel
theorem dd_L_law_178 : decode code 178 = .ok (.iload_n 3, 1) := by decide +kernel
theorem dd_L_law_179 : decode code 179 = .ok (.iconst 4, 1) := by decide +kernel
theorem dd_L_law_180 : decode code 180 = .ok (.iadd, 1) := by decide +kernel
theorem dd_L_law_181 : decode code 181 = .ok (.iaload, 1) := by decide +kernel
theorem dd_L_law_182 : decode code 182 = .ok (.aload_n 0, 1) := by decide +kernel
theorem dd_L_law_183 : decode code 183 = .ok (.iload_n 3, 1) := by decide +kernel
theorem dd_L_law_184 : decode code 184 = .ok (.iconst 5, 1) := by decide +kernel
theorem dd_L_law_185 : decode code 185 = .ok (.iadd, 1) := by decide +kernel
theorem dd_L_law_186 : decode code 186 = .ok (.iaload, 1) := by decide +kernel
theorem dd_L_law_187 : decode code 187 = .ok (.ifCond .eq 7, 3) := by decide +kernel
theorem dd_L_law_190 : decode code 190 = .ok (.iconst 1, 1) := by decide +kernel
theorem dd_L_law_191 : decode code 191 = .ok (.goto 4, 3) := by decide +kernel
theorem dd_L_law_194 : decode code 194 = .ok (.iconst 0, 1) := by decide +kernel
theorem dd_L_law_195 : decode code 195 = .ok (.aload_n 0, 1) := by decide +kernel
theorem dd_L_law_196 : decode code 196 = .ok (.iload_n 3, 1) := by decide +kernel
theorem dd_L_law_197 : decode code 197 = .ok (.bipush 6, 2) := by decide +kernel
theorem dd_L_law_199 : decode code 199 = .ok (.iadd, 1) := by decide +kernel
theorem dd_L_law_200 : decode code 200 = .ok (.iaload, 1) := by decide +kernel
theorem dd_L_law_201 : decode code 201 = .ok (.ifCond .eq 7, 3) := by decide +kernel
theorem dd_L_law_204 : decode code 204 = .ok (.iconst 1, 1) := by decide +kernel
theorem dd_L_law_205 : decode code 205 = .ok (.goto 4, 3) := by decide +kernel
theorem dd_L_law_208 : decode code 208 = .ok (.iconst 0, 1) := by decide +kernel
theorem dd_L_law_209 : decode code 209 = .ok (.invokevirtual 28, 3) := by decide +kernel
theorem dd_L_law_212 : decode code 212 = .ok (.aload_n 2, 1) := by decide +kernel
theorem dd_L_law_213 : decode code 213 = .ok (.aload_n 0, 1) := by decide +kernel
theorem dd_L_law_214 : decode code 214 = .ok (.iload_n 3, 1) := by decide +kernel
theorem dd_L_law_215 : decode code 215 = .ok (.iconst 1, 1) := by decide +kernel
theorem dd_L_law_216 : decode code 216 = .ok (.iadd, 1) := by decide +kernel
theorem dd_L_law_217 : decode code 217 = .ok (.iaload, 1) := by decide +kernel
theorem dd_L_law_218 : decode code 218 = .ok (.aload_n 0, 1) := by decide +kernel
theorem dd_L_law_219 : decode code 219 = .ok (.iload_n 3, 1) := by decide +kernel
theorem dd_L_law_220 : decode code 220 = .ok (.iconst 2, 1) := by decide +kernel
theorem dd_L_law_221 : decode code 221 = .ok (.iadd, 1) := by decide +kernel
theorem dd_L_law_222 : decode code 222 = .ok (.iaload, 1) := by decide +kernel
theorem dd_L_law_223 : decode code 223 = .ok (.i2l, 1) := by decide +kernel
theorem dd_L_law_224 : decode code 224 = .ok (.bipush 32, 2) := by decide +kernel
theorem dd_L_law_226 : decode code 226 = .ok (.lshl, 1) := by decide +kernel
theorem dd_L_law_227 : decode code 227 = .ok (.aload_n 0, 1) := by decide +kernel
theorem dd_L_law_228 : decode code 228 = .ok (.iload_n 3, 1) := by decide +kernel
theorem dd_L_law_229 : decode code 229 = .ok (.iconst 3, 1) := by decide +kernel
theorem dd_L_law_230 : decode code 230 = .ok (.iadd, 1) := by decide +kernel
theorem dd_L_law_231 : decode code 231 = .ok (.iaload, 1) := by decide +kernel
theorem dd_L_law_232 : decode code 232 = .ok (.i2l, 1) := by decide +kernel
theorem dd_L_law_233 : decode code 233 = .ok (.ldc2_w 26, 3) := by decide +kernel
theorem dd_L_law_236 : decode code 236 = .ok (.land, 1) := by decide +kernel
theorem dd_L_law_237 : decode code 237 = .ok (.lor, 1) := by decide +kernel
theorem dd_L_law_238 : decode code 238 = .ok (.aload_n 0, 1) := by decide +kernel
theorem dd_L_law_239 : decode code 239 = .ok (.iload_n 3, 1) := by decide +kernel
theorem dd_L_law_240 : decode code 240 = .ok (.iconst 4, 1) := by decide +kernel
theorem dd_L_law_241 : decode code 241 = .ok (.iadd, 1) := by decide +kernel
theorem dd_L_law_242 : decode code 242 = .ok (.iaload, 1) := by decide +kernel
theorem dd_L_law_243 : decode code 243 = .ok (.aload_n 0, 1) := by decide +kernel
theorem dd_L_law_244 : decode code 244 = .ok (.iload_n 3, 1) := by decide +kernel
theorem dd_L_law_245 : decode code 245 = .ok (.iconst 5, 1) := by decide +kernel
theorem dd_L_law_246 : decode code 246 = .ok (.iadd, 1) := by decide +kernel
theorem dd_L_law_247 : decode code 247 = .ok (.iaload, 1) := by decide +kernel
theorem dd_L_law_248 : decode code 248 = .ok (.ifCond .eq 7, 3) := by decide +kernel
theorem dd_L_law_251 : decode code 251 = .ok (.iconst 1, 1) := by decide +kernel
theorem dd_L_law_252 : decode code 252 = .ok (.goto 4, 3) := by decide +kernel
theorem dd_L_law_255 : decode code 255 = .ok (.iconst 0, 1) := by decide +kernel
theorem dd_L_law_256 : decode code 256 = .ok (.aload_n 0, 1) := by decide +kernel
theorem dd_L_law_257 : decode code 257 = .ok (.iload_n 3, 1) := by decide +kernel
theorem dd_L_law_258 : decode code 258 = .ok (.bipush 6, 2) := by decide +kernel
theorem dd_L_law_260 : decode code 260 = .ok (.iadd, 1) := by decide +kernel
theorem dd_L_law_261 : decode code 261 = .ok (.iaload, 1) := by decide +kernel
theorem dd_L_law_262 : decode code 262 = .ok (.ifCond .eq 7, 3) := by decide +kernel
theorem dd_L_law_265 : decode code 265 = .ok (.iconst 1, 1) := by decide +kernel
theorem dd_L_law_266 : decode code 266 = .ok (.goto 4, 3) := by decide +kernel
theorem dd_L_law_269 : decode code 269 = .ok (.iconst 0, 1) := by decide +kernel
theorem dd_L_law_270 : decode code 270 = .ok (.invokevirtual 32, 3) := by decide +kernel
theorem dd_L_law_273 : decode code 273 = .ok (.if_icmp .eq 536, 3) := by decide +kernel
theorem dd_L_law_276 : decode code 276 = .ok (.iconst 0, 1) := by decide +kernel
theorem dd_L_law_277 : decode code 277 = .ok (.ireturn, 1) := by decide +kernel
theorem dd_L_law_278 : decode code 278 = .ok (.aload_n 1, 1) := by decide +kernel
theorem dd_L_law_279 : decode code 279 = .ok (.aload_n 0, 1) := by decide +kernel
theorem dd_L_law_280 : decode code 280 = .ok (.iload_n 3, 1) := by decide +kernel
theorem dd_L_law_281 : decode code 281 = .ok (.iconst 1, 1) := by decide +kernel
theorem dd_L_law_282 : decode code 282 = .ok (.iadd, 1) := by decide +kernel
theorem dd_L_law_283 : decode code 283 = .ok (.iaload, 1) := by decide +kernel
theorem dd_L_law_284 : decode code 284 = .ok (.aload_n 0, 1) := by decide +kernel
theorem dd_L_law_285 : decode code 285 = .ok (.iload_n 3, 1) := by decide +kernel
theorem dd_L_law_286 : decode code 286 = .ok (.iconst 2, 1) := by decide +kernel
theorem dd_L_law_287 : decode code 287 = .ok (.iadd, 1) := by decide +kernel
theorem dd_L_law_288 : decode code 288 = .ok (.iaload, 1) := by decide +kernel
theorem dd_L_law_289 : decode code 289 = .ok (.invokevirtual 33, 3) := by decide +kernel
theorem dd_L_law_292 : decode code 292 = .ok (.aload_n 2, 1) := by decide +kernel
theorem dd_L_law_293 : decode code 293 = .ok (.aload_n 0, 1) := by decide +kernel
theorem dd_L_law_294 : decode code 294 = .ok (.iload_n 3, 1) := by decide +kernel
theorem dd_L_law_295 : decode code 295 = .ok (.iconst 1, 1) := by decide +kernel
theorem dd_L_law_296 : decode code 296 = .ok (.iadd, 1) := by decide +kernel
theorem dd_L_law_297 : decode code 297 = .ok (.iaload, 1) := by decide +kernel
theorem dd_L_law_298 : decode code 298 = .ok (.aload_n 0, 1) := by decide +kernel
theorem dd_L_law_299 : decode code 299 = .ok (.iload_n 3, 1) := by decide +kernel
theorem dd_L_law_300 : decode code 300 = .ok (.iconst 2, 1) := by decide +kernel
theorem dd_L_law_301 : decode code 301 = .ok (.iadd, 1) := by decide +kernel
theorem dd_L_law_302 : decode code 302 = .ok (.iaload, 1) := by decide +kernel
theorem dd_L_law_303 : decode code 303 = .ok (.invokevirtual 37, 3) := by decide +kernel
theorem dd_L_law_306 : decode code 306 = .ok (.if_icmp .eq 503, 3) := by decide +kernel
theorem dd_L_law_309 : decode code 309 = .ok (.iconst 0, 1) := by decide +kernel
theorem dd_L_law_310 : decode code 310 = .ok (.ireturn, 1) := by decide +kernel
theorem dd_L_law_311 : decode code 311 = .ok (.aload_n 1, 1) := by decide +kernel
theorem dd_L_law_312 : decode code 312 = .ok (.aload_n 0, 1) := by decide +kernel
theorem dd_L_law_313 : decode code 313 = .ok (.iload_n 3, 1) := by decide +kernel
theorem dd_L_law_314 : decode code 314 = .ok (.iconst 1, 1) := by decide +kernel
theorem dd_L_law_315 : decode code 315 = .ok (.iadd, 1) := by decide +kernel
theorem dd_L_law_316 : decode code 316 = .ok (.iaload, 1) := by decide +kernel
theorem dd_L_law_317 : decode code 317 = .ok (.aload_n 0, 1) := by decide +kernel
theorem dd_L_law_318 : decode code 318 = .ok (.iload_n 3, 1) := by decide +kernel
theorem dd_L_law_319 : decode code 319 = .ok (.iconst 2, 1) := by decide +kernel
theorem dd_L_law_320 : decode code 320 = .ok (.iadd, 1) := by decide +kernel
theorem dd_L_law_321 : decode code 321 = .ok (.iaload, 1) := by decide +kernel
theorem dd_L_law_322 : decode code 322 = .ok (.i2l, 1) := by decide +kernel
theorem dd_L_law_323 : decode code 323 = .ok (.bipush 32, 2) := by decide +kernel
theorem dd_L_law_325 : decode code 325 = .ok (.lshl, 1) := by decide +kernel
theorem dd_L_law_326 : decode code 326 = .ok (.aload_n 0, 1) := by decide +kernel
theorem dd_L_law_327 : decode code 327 = .ok (.iload_n 3, 1) := by decide +kernel
theorem dd_L_law_328 : decode code 328 = .ok (.iconst 3, 1) := by decide +kernel
theorem dd_L_law_329 : decode code 329 = .ok (.iadd, 1) := by decide +kernel
theorem dd_L_law_330 : decode code 330 = .ok (.iaload, 1) := by decide +kernel
theorem dd_L_law_331 : decode code 331 = .ok (.i2l, 1) := by decide +kernel
theorem dd_L_law_332 : decode code 332 = .ok (.ldc2_w 26, 3) := by decide +kernel
theorem dd_L_law_335 : decode code 335 = .ok (.land, 1) := by decide +kernel
theorem dd_L_law_336 : decode code 336 = .ok (.lor, 1) := by decide +kernel
theorem dd_L_law_337 : decode code 337 = .ok (.aload_n 0, 1) := by decide +kernel
theorem dd_L_law_338 : decode code 338 = .ok (.iload_n 3, 1) := by decide +kernel
theorem dd_L_law_339 : decode code 339 = .ok (.iconst 4, 1) := by decide +kernel
theorem dd_L_law_340 : decode code 340 = .ok (.iadd, 1) := by decide +kernel
theorem dd_L_law_341 : decode code 341 = .ok (.iaload, 1) := by decide +kernel
theorem dd_L_law_342 : decode code 342 = .ok (.invokevirtual 38, 3) := by decide +kernel
theorem dd_L_law_345 : decode code 345 = .ok (.aload_n 2, 1) := by decide +kernel
theorem dd_L_law_346 : decode code 346 = .ok (.aload_n 0, 1) := by decide +kernel
theorem dd_L_law_347 : decode code 347 = .ok (.iload_n 3, 1) := by decide +kernel
theorem dd_L_law_348 : decode code 348 = .ok (.iconst 1, 1) := by decide +kernel
theorem dd_L_law_349 : decode code 349 = .ok (.iadd, 1) := by decide +kernel
theorem dd_L_law_350 : decode code 350 = .ok (.iaload, 1) := by decide +kernel
theorem dd_L_law_351 : decode code 351 = .ok (.aload_n 0, 1) := by decide +kernel
theorem dd_L_law_352 : decode code 352 = .ok (.iload_n 3, 1) := by decide +kernel
theorem dd_L_law_353 : decode code 353 = .ok (.iconst 2, 1) := by decide +kernel
theorem dd_L_law_354 : decode code 354 = .ok (.iadd, 1) := by decide +kernel
theorem dd_L_law_355 : decode code 355 = .ok (.iaload, 1) := by decide +kernel
theorem dd_L_law_356 : decode code 356 = .ok (.i2l, 1) := by decide +kernel
theorem dd_L_law_357 : decode code 357 = .ok (.bipush 32, 2) := by decide +kernel
theorem dd_L_law_359 : decode code 359 = .ok (.lshl, 1) := by decide +kernel
theorem dd_L_law_360 : decode code 360 = .ok (.aload_n 0, 1) := by decide +kernel
theorem dd_L_law_361 : decode code 361 = .ok (.iload_n 3, 1) := by decide +kernel
theorem dd_L_law_362 : decode code 362 = .ok (.iconst 3, 1) := by decide +kernel
theorem dd_L_law_363 : decode code 363 = .ok (.iadd, 1) := by decide +kernel
theorem dd_L_law_364 : decode code 364 = .ok (.iaload, 1) := by decide +kernel
theorem dd_L_law_365 : decode code 365 = .ok (.i2l, 1) := by decide +kernel
theorem dd_L_law_366 : decode code 366 = .ok (.ldc2_w 26, 3) := by decide +kernel
theorem dd_L_law_369 : decode code 369 = .ok (.land, 1) := by decide +kernel
theorem dd_L_law_370 : decode code 370 = .ok (.lor, 1) := by decide +kernel
theorem dd_L_law_371 : decode code 371 = .ok (.aload_n 0, 1) := by decide +kernel
theorem dd_L_law_372 : decode code 372 = .ok (.iload_n 3, 1) := by decide +kernel
theorem dd_L_law_373 : decode code 373 = .ok (.iconst 4, 1) := by decide +kernel
theorem dd_L_law_374 : decode code 374 = .ok (.iadd, 1) := by decide +kernel
theorem dd_L_law_375 : decode code 375 = .ok (.iaload, 1) := by decide +kernel
theorem dd_L_law_376 : decode code 376 = .ok (.invokevirtual 42, 3) := by decide +kernel
theorem dd_L_law_379 : decode code 379 = .ok (.if_icmp .eq 430, 3) := by decide +kernel
theorem dd_L_law_382 : decode code 382 = .ok (.iconst 0, 1) := by decide +kernel
theorem dd_L_law_383 : decode code 383 = .ok (.ireturn, 1) := by decide +kernel
theorem dd_L_law_384 : decode code 384 = .ok (.aload_n 1, 1) := by decide +kernel
theorem dd_L_law_385 : decode code 385 = .ok (.aload_n 0, 1) := by decide +kernel
theorem dd_L_law_386 : decode code 386 = .ok (.iload_n 3, 1) := by decide +kernel
theorem dd_L_law_387 : decode code 387 = .ok (.iconst 1, 1) := by decide +kernel
theorem dd_L_law_388 : decode code 388 = .ok (.iadd, 1) := by decide +kernel
theorem dd_L_law_389 : decode code 389 = .ok (.iaload, 1) := by decide +kernel
theorem dd_L_law_390 : decode code 390 = .ok (.invokevirtual 43, 3) := by decide +kernel
theorem dd_L_law_393 : decode code 393 = .ok (.aload_n 2, 1) := by decide +kernel
theorem dd_L_law_394 : decode code 394 = .ok (.aload_n 0, 1) := by decide +kernel
theorem dd_L_law_395 : decode code 395 = .ok (.iload_n 3, 1) := by decide +kernel
theorem dd_L_law_396 : decode code 396 = .ok (.iconst 1, 1) := by decide +kernel
theorem dd_L_law_397 : decode code 397 = .ok (.iadd, 1) := by decide +kernel
theorem dd_L_law_398 : decode code 398 = .ok (.iaload, 1) := by decide +kernel
theorem dd_L_law_399 : decode code 399 = .ok (.invokevirtual 46, 3) := by decide +kernel
theorem dd_L_law_402 : decode code 402 = .ok (.if_icmp .eq 407, 3) := by decide +kernel
theorem dd_L_law_405 : decode code 405 = .ok (.iconst 0, 1) := by decide +kernel
theorem dd_L_law_406 : decode code 406 = .ok (.ireturn, 1) := by decide +kernel
theorem dd_L_law_407 : decode code 407 = .ok (.aload_n 1, 1) := by decide +kernel
theorem dd_L_law_408 : decode code 408 = .ok (.aload_n 0, 1) := by decide +kernel
theorem dd_L_law_409 : decode code 409 = .ok (.iload_n 3, 1) := by decide +kernel
theorem dd_L_law_410 : decode code 410 = .ok (.iconst 1, 1) := by decide +kernel
theorem dd_L_law_411 : decode code 411 = .ok (.iadd, 1) := by decide +kernel
theorem dd_L_law_412 : decode code 412 = .ok (.iaload, 1) := by decide +kernel
theorem dd_L_law_413 : decode code 413 = .ok (.aload_n 0, 1) := by decide +kernel
theorem dd_L_law_414 : decode code 414 = .ok (.iload_n 3, 1) := by decide +kernel
theorem dd_L_law_415 : decode code 415 = .ok (.iconst 2, 1) := by decide +kernel
theorem dd_L_law_416 : decode code 416 = .ok (.iadd, 1) := by decide +kernel
theorem dd_L_law_417 : decode code 417 = .ok (.iaload, 1) := by decide +kernel
theorem dd_L_law_418 : decode code 418 = .ok (.invokevirtual 47, 3) := by decide +kernel
theorem dd_L_law_421 : decode code 421 = .ok (.aload_n 2, 1) := by decide +kernel
theorem dd_L_law_422 : decode code 422 = .ok (.aload_n 0, 1) := by decide +kernel
theorem dd_L_law_423 : decode code 423 = .ok (.iload_n 3, 1) := by decide +kernel
theorem dd_L_law_424 : decode code 424 = .ok (.iconst 1, 1) := by decide +kernel
theorem dd_L_law_425 : decode code 425 = .ok (.iadd, 1) := by decide +kernel
theorem dd_L_law_426 : decode code 426 = .ok (.iaload, 1) := by decide +kernel
theorem dd_L_law_427 : decode code 427 = .ok (.aload_n 0, 1) := by decide +kernel
theorem dd_L_law_428 : decode code 428 = .ok (.iload_n 3, 1) := by decide +kernel
theorem dd_L_law_429 : decode code 429 = .ok (.iconst 2, 1) := by decide +kernel
theorem dd_L_law_430 : decode code 430 = .ok (.iadd, 1) := by decide +kernel
theorem dd_L_law_431 : decode code 431 = .ok (.iaload, 1) := by decide +kernel
theorem dd_L_law_432 : decode code 432 = .ok (.invokevirtual 51, 3) := by decide +kernel
theorem dd_L_law_435 : decode code 435 = .ok (.if_icmp .eq 374, 3) := by decide +kernel
theorem dd_L_law_438 : decode code 438 = .ok (.iconst 0, 1) := by decide +kernel
theorem dd_L_law_439 : decode code 439 = .ok (.ireturn, 1) := by decide +kernel
theorem dd_L_law_440 : decode code 440 = .ok (.aload_n 1, 1) := by decide +kernel
theorem dd_L_law_441 : decode code 441 = .ok (.aload_n 0, 1) := by decide +kernel
theorem dd_L_law_442 : decode code 442 = .ok (.iload_n 3, 1) := by decide +kernel
theorem dd_L_law_443 : decode code 443 = .ok (.iconst 1, 1) := by decide +kernel
theorem dd_L_law_444 : decode code 444 = .ok (.iadd, 1) := by decide +kernel
theorem dd_L_law_445 : decode code 445 = .ok (.iaload, 1) := by decide +kernel
theorem dd_L_law_446 : decode code 446 = .ok (.invokevirtual 52, 3) := by decide +kernel
theorem dd_L_law_449 : decode code 449 = .ok (.aload_n 2, 1) := by decide +kernel
theorem dd_L_law_450 : decode code 450 = .ok (.aload_n 0, 1) := by decide +kernel
theorem dd_L_law_451 : decode code 451 = .ok (.iload_n 3, 1) := by decide +kernel
theorem dd_L_law_452 : decode code 452 = .ok (.iconst 1, 1) := by decide +kernel
theorem dd_L_law_453 : decode code 453 = .ok (.iadd, 1) := by decide +kernel
theorem dd_L_law_454 : decode code 454 = .ok (.iaload, 1) := by decide +kernel
theorem dd_L_law_455 : decode code 455 = .ok (.invokevirtual 56, 3) := by decide +kernel
theorem dd_L_law_458 : decode code 458 = .ok (.if_icmp .eq 351, 3) := by decide +kernel
theorem dd_L_law_461 : decode code 461 = .ok (.iconst 0, 1) := by decide +kernel
theorem dd_L_law_462 : decode code 462 = .ok (.ireturn, 1) := by decide +kernel
theorem dd_L_law_463 : decode code 463 = .ok (.aload_n 1, 1) := by decide +kernel
theorem dd_L_law_464 : decode code 464 = .ok (.aload_n 0, 1) := by decide +kernel
theorem dd_L_law_465 : decode code 465 = .ok (.iload_n 3, 1) := by decide +kernel
theorem dd_L_law_466 : decode code 466 = .ok (.iconst 1, 1) := by decide +kernel
theorem dd_L_law_467 : decode code 467 = .ok (.iadd, 1) := by decide +kernel
theorem dd_L_law_468 : decode code 468 = .ok (.iaload, 1) := by decide +kernel
theorem dd_L_law_469 : decode code 469 = .ok (.invokevirtual 57, 3) := by decide +kernel
theorem dd_L_law_472 : decode code 472 = .ok (.aload_n 2, 1) := by decide +kernel
theorem dd_L_law_473 : decode code 473 = .ok (.aload_n 0, 1) := by decide +kernel
theorem dd_L_law_474 : decode code 474 = .ok (.iload_n 3, 1) := by decide +kernel
theorem dd_L_law_475 : decode code 475 = .ok (.iconst 1, 1) := by decide +kernel
theorem dd_L_law_476 : decode code 476 = .ok (.iadd, 1) := by decide +kernel
theorem dd_L_law_477 : decode code 477 = .ok (.iaload, 1) := by decide +kernel
theorem dd_L_law_478 : decode code 478 = .ok (.invokevirtual 60, 3) := by decide +kernel
theorem dd_L_law_481 : decode code 481 = .ok (.if_icmp .eq 328, 3) := by decide +kernel
theorem dd_L_law_484 : decode code 484 = .ok (.iconst 0, 1) := by decide +kernel
theorem dd_L_law_485 : decode code 485 = .ok (.ireturn, 1) := by decide +kernel
theorem dd_L_law_486 : decode code 486 = .ok (.aload_n 1, 1) := by decide +kernel
theorem dd_L_law_487 : decode code 487 = .ok (.aload_n 0, 1) := by decide +kernel
theorem dd_L_law_488 : decode code 488 = .ok (.iload_n 3, 1) := by decide +kernel
theorem dd_L_law_489 : decode code 489 = .ok (.iconst 1, 1) := by decide +kernel
theorem dd_L_law_490 : decode code 490 = .ok (.iadd, 1) := by decide +kernel
theorem dd_L_law_491 : decode code 491 = .ok (.iaload, 1) := by decide +kernel
theorem dd_L_law_492 : decode code 492 = .ok (.invokevirtual 61, 3) := by decide +kernel
theorem dd_L_law_495 : decode code 495 = .ok (.aload_n 2, 1) := by decide +kernel
theorem dd_L_law_496 : decode code 496 = .ok (.aload_n 0, 1) := by decide +kernel
theorem dd_L_law_497 : decode code 497 = .ok (.iload_n 3, 1) := by decide +kernel
theorem dd_L_law_498 : decode code 498 = .ok (.iconst 1, 1) := by decide +kernel
theorem dd_L_law_499 : decode code 499 = .ok (.iadd, 1) := by decide +kernel
theorem dd_L_law_500 : decode code 500 = .ok (.iaload, 1) := by decide +kernel
theorem dd_L_law_501 : decode code 501 = .ok (.invokevirtual 64, 3) := by decide +kernel
theorem dd_L_law_504 : decode code 504 = .ok (.if_icmp .eq 305, 3) := by decide +kernel
theorem dd_L_law_507 : decode code 507 = .ok (.iconst 0, 1) := by decide +kernel
theorem dd_L_law_508 : decode code 508 = .ok (.ireturn, 1) := by decide +kernel
theorem dd_L_law_509 : decode code 509 = .ok (.aload_n 1, 1) := by decide +kernel
theorem dd_L_law_510 : decode code 510 = .ok (.aload_n 0, 1) := by decide +kernel
theorem dd_L_law_511 : decode code 511 = .ok (.iload_n 3, 1) := by decide +kernel
theorem dd_L_law_512 : decode code 512 = .ok (.iconst 1, 1) := by decide +kernel
theorem dd_L_law_513 : decode code 513 = .ok (.iadd, 1) := by decide +kernel
theorem dd_L_law_514 : decode code 514 = .ok (.iaload, 1) := by decide +kernel
theorem dd_L_law_515 : decode code 515 = .ok (.aload_n 0, 1) := by decide +kernel
theorem dd_L_law_516 : decode code 516 = .ok (.iload_n 3, 1) := by decide +kernel
theorem dd_L_law_517 : decode code 517 = .ok (.iconst 2, 1) := by decide +kernel
theorem dd_L_law_518 : decode code 518 = .ok (.iadd, 1) := by decide +kernel
theorem dd_L_law_519 : decode code 519 = .ok (.iaload, 1) := by decide +kernel
theorem dd_L_law_520 : decode code 520 = .ok (.aload_n 0, 1) := by decide +kernel
theorem dd_L_law_521 : decode code 521 = .ok (.iload_n 3, 1) := by decide +kernel
theorem dd_L_law_522 : decode code 522 = .ok (.iconst 3, 1) := by decide +kernel
theorem dd_L_law_523 : decode code 523 = .ok (.iadd, 1) := by decide +kernel
theorem dd_L_law_524 : decode code 524 = .ok (.iaload, 1) := by decide +kernel
theorem dd_L_law_525 : decode code 525 = .ok (.invokevirtual 65, 3) := by decide +kernel
theorem dd_L_law_528 : decode code 528 = .ok (.aload_n 2, 1) := by decide +kernel
theorem dd_L_law_529 : decode code 529 = .ok (.aload_n 0, 1) := by decide +kernel
theorem dd_L_law_530 : decode code 530 = .ok (.iload_n 3, 1) := by decide +kernel
theorem dd_L_law_531 : decode code 531 = .ok (.iconst 1, 1) := by decide +kernel
theorem dd_L_law_532 : decode code 532 = .ok (.iadd, 1) := by decide +kernel
theorem dd_L_law_533 : decode code 533 = .ok (.iaload, 1) := by decide +kernel
theorem dd_L_law_534 : decode code 534 = .ok (.aload_n 0, 1) := by decide +kernel
theorem dd_L_law_535 : decode code 535 = .ok (.iload_n 3, 1) := by decide +kernel
theorem dd_L_law_536 : decode code 536 = .ok (.iconst 2, 1) := by decide +kernel
theorem dd_L_law_537 : decode code 537 = .ok (.iadd, 1) := by decide +kernel
theorem dd_L_law_538 : decode code 538 = .ok (.iaload, 1) := by decide +kernel
theorem dd_L_law_539 : decode code 539 = .ok (.aload_n 0, 1) := by decide +kernel
theorem dd_L_law_540 : decode code 540 = .ok (.iload_n 3, 1) := by decide +kernel
theorem dd_L_law_541 : decode code 541 = .ok (.iconst 3, 1) := by decide +kernel
theorem dd_L_law_542 : decode code 542 = .ok (.iadd, 1) := by decide +kernel
theorem dd_L_law_543 : decode code 543 = .ok (.iaload, 1) := by decide +kernel
theorem dd_L_law_544 : decode code 544 = .ok (.invokevirtual 69, 3) := by decide +kernel
theorem dd_L_law_547 : decode code 547 = .ok (.if_icmp .eq 262, 3) := by decide +kernel
theorem dd_L_law_550 : decode code 550 = .ok (.iconst 0, 1) := by decide +kernel
theorem dd_L_law_551 : decode code 551 = .ok (.ireturn, 1) := by decide +kernel
theorem dd_L_law_552 : decode code 552 = .ok (.aload_n 1, 1) := by decide +kernel
theorem dd_L_law_553 : decode code 553 = .ok (.invokevirtual 70, 3) := by decide +kernel
theorem dd_L_law_556 : decode code 556 = .ok (.aload_n 2, 1) := by decide +kernel
theorem dd_L_law_557 : decode code 557 = .ok (.invokevirtual 74, 3) := by decide +kernel
theorem dd_L_law_560 : decode code 560 = .ok (.if_icmp .eq 249, 3) := by decide +kernel
theorem dd_L_law_563 : decode code 563 = .ok (.iconst 0, 1) := by decide +kernel
theorem dd_L_law_564 : decode code 564 = .ok (.ireturn, 1) := by decide +kernel
theorem dd_L_law_565 : decode code 565 = .ok (.aload_n 1, 1) := by decide +kernel
theorem dd_L_law_566 : decode code 566 = .ok (.aload_n 0, 1) := by decide +kernel
theorem dd_L_law_567 : decode code 567 = .ok (.iload_n 3, 1) := by decide +kernel
theorem dd_L_law_568 : decode code 568 = .ok (.iconst 1, 1) := by decide +kernel
theorem dd_L_law_569 : decode code 569 = .ok (.iadd, 1) := by decide +kernel
theorem dd_L_law_570 : decode code 570 = .ok (.iaload, 1) := by decide +kernel
theorem dd_L_law_571 : decode code 571 = .ok (.invokevirtual 75, 3) := by decide +kernel
theorem dd_L_law_574 : decode code 574 = .ok (.aload_n 2, 1) := by decide +kernel
theorem dd_L_law_575 : decode code 575 = .ok (.aload_n 0, 1) := by decide +kernel
theorem dd_L_law_576 : decode code 576 = .ok (.iload_n 3, 1) := by decide +kernel
theorem dd_L_law_577 : decode code 577 = .ok (.iconst 1, 1) := by decide +kernel
theorem dd_L_law_578 : decode code 578 = .ok (.iadd, 1) := by decide +kernel
theorem dd_L_law_579 : decode code 579 = .ok (.iaload, 1) := by decide +kernel
theorem dd_L_law_580 : decode code 580 = .ok (.invokevirtual 78, 3) := by decide +kernel
theorem dd_L_law_583 : decode code 583 = .ok (.if_icmp .eq 226, 3) := by decide +kernel
theorem dd_L_law_586 : decode code 586 = .ok (.iconst 0, 1) := by decide +kernel
theorem dd_L_law_587 : decode code 587 = .ok (.ireturn, 1) := by decide +kernel
theorem dd_L_law_588 : decode code 588 = .ok (.aload_n 1, 1) := by decide +kernel
theorem dd_L_law_589 : decode code 589 = .ok (.aload_n 0, 1) := by decide +kernel
theorem dd_L_law_590 : decode code 590 = .ok (.iload_n 3, 1) := by decide +kernel
theorem dd_L_law_591 : decode code 591 = .ok (.iconst 1, 1) := by decide +kernel
theorem dd_L_law_592 : decode code 592 = .ok (.iadd, 1) := by decide +kernel
theorem dd_L_law_593 : decode code 593 = .ok (.iaload, 1) := by decide +kernel
theorem dd_L_law_594 : decode code 594 = .ok (.aload_n 0, 1) := by decide +kernel
theorem dd_L_law_595 : decode code 595 = .ok (.iload_n 3, 1) := by decide +kernel
theorem dd_L_law_596 : decode code 596 = .ok (.iconst 2, 1) := by decide +kernel
theorem dd_L_law_597 : decode code 597 = .ok (.iadd, 1) := by decide +kernel
theorem dd_L_law_598 : decode code 598 = .ok (.iaload, 1) := by decide +kernel
theorem dd_L_law_599 : decode code 599 = .ok (.invokevirtual 79, 3) := by decide +kernel
theorem dd_L_law_602 : decode code 602 = .ok (.aload_n 2, 1) := by decide +kernel
theorem dd_L_law_603 : decode code 603 = .ok (.aload_n 0, 1) := by decide +kernel
theorem dd_L_law_604 : decode code 604 = .ok (.iload_n 3, 1) := by decide +kernel
theorem dd_L_law_605 : decode code 605 = .ok (.iconst 1, 1) := by decide +kernel
theorem dd_L_law_606 : decode code 606 = .ok (.iadd, 1) := by decide +kernel
theorem dd_L_law_607 : decode code 607 = .ok (.iaload, 1) := by decide +kernel
theorem dd_L_law_608 : decode code 608 = .ok (.aload_n 0, 1) := by decide +kernel
theorem dd_L_law_609 : decode code 609 = .ok (.iload_n 3, 1) := by decide +kernel
theorem dd_L_law_610 : decode code 610 = .ok (.iconst 2, 1) := by decide +kernel
theorem dd_L_law_611 : decode code 611 = .ok (.iadd, 1) := by decide +kernel
theorem dd_L_law_612 : decode code 612 = .ok (.iaload, 1) := by decide +kernel
theorem dd_L_law_613 : decode code 613 = .ok (.invokevirtual 82, 3) := by decide +kernel
theorem dd_L_law_616 : decode code 616 = .ok (.if_icmp .eq 193, 3) := by decide +kernel
theorem dd_L_law_619 : decode code 619 = .ok (.iconst 0, 1) := by decide +kernel
theorem dd_L_law_620 : decode code 620 = .ok (.ireturn, 1) := by decide +kernel
theorem dd_L_law_621 : decode code 621 = .ok (.aload_n 1, 1) := by decide +kernel
theorem dd_L_law_622 : decode code 622 = .ok (.aload_n 0, 1) := by decide +kernel
theorem dd_L_law_623 : decode code 623 = .ok (.iload_n 3, 1) := by decide +kernel
theorem dd_L_law_624 : decode code 624 = .ok (.iconst 1, 1) := by decide +kernel
theorem dd_L_law_625 : decode code 625 = .ok (.iadd, 1) := by decide +kernel
theorem dd_L_law_626 : decode code 626 = .ok (.iaload, 1) := by decide +kernel
theorem dd_L_law_627 : decode code 627 = .ok (.invokevirtual 83, 3) := by decide +kernel
theorem dd_L_law_630 : decode code 630 = .ok (.aload_n 2, 1) := by decide +kernel
theorem dd_L_law_631 : decode code 631 = .ok (.aload_n 0, 1) := by decide +kernel
theorem dd_L_law_632 : decode code 632 = .ok (.iload_n 3, 1) := by decide +kernel
theorem dd_L_law_633 : decode code 633 = .ok (.iconst 1, 1) := by decide +kernel
theorem dd_L_law_634 : decode code 634 = .ok (.iadd, 1) := by decide +kernel
theorem dd_L_law_635 : decode code 635 = .ok (.iaload, 1) := by decide +kernel
theorem dd_L_law_636 : decode code 636 = .ok (.invokevirtual 86, 3) := by decide +kernel
theorem dd_L_law_639 : decode code 639 = .ok (.if_icmp .eq 170, 3) := by decide +kernel
theorem dd_L_law_642 : decode code 642 = .ok (.iconst 0, 1) := by decide +kernel
theorem dd_L_law_643 : decode code 643 = .ok (.ireturn, 1) := by decide +kernel
theorem dd_L_law_644 : decode code 644 = .ok (.aload_n 1, 1) := by decide +kernel
theorem dd_L_law_645 : decode code 645 = .ok (.aload_n 0, 1) := by decide +kernel
theorem dd_L_law_646 : decode code 646 = .ok (.iload_n 3, 1) := by decide +kernel
theorem dd_L_law_647 : decode code 647 = .ok (.iconst 1, 1) := by decide +kernel
theorem dd_L_law_648 : decode code 648 = .ok (.iadd, 1) := by decide +kernel
theorem dd_L_law_649 : decode code 649 = .ok (.iaload, 1) := by decide +kernel
theorem dd_L_law_650 : decode code 650 = .ok (.invokevirtual 87, 3) := by decide +kernel
theorem dd_L_law_653 : decode code 653 = .ok (.aload_n 2, 1) := by decide +kernel
theorem dd_L_law_654 : decode code 654 = .ok (.aload_n 0, 1) := by decide +kernel
theorem dd_L_law_655 : decode code 655 = .ok (.iload_n 3, 1) := by decide +kernel
theorem dd_L_law_656 : decode code 656 = .ok (.iconst 1, 1) := by decide +kernel
theorem dd_L_law_657 : decode code 657 = .ok (.iadd, 1) := by decide +kernel
theorem dd_L_law_658 : decode code 658 = .ok (.iaload, 1) := by decide +kernel
theorem dd_L_law_659 : decode code 659 = .ok (.invokevirtual 90, 3) := by decide +kernel
theorem dd_L_law_662 : decode code 662 = .ok (.if_icmp .eq 147, 3) := by decide +kernel
theorem dd_L_law_665 : decode code 665 = .ok (.iconst 0, 1) := by decide +kernel
theorem dd_L_law_666 : decode code 666 = .ok (.ireturn, 1) := by decide +kernel
theorem dd_L_law_667 : decode code 667 = .ok (.aload_n 1, 1) := by decide +kernel
theorem dd_L_law_668 : decode code 668 = .ok (.aload_n 0, 1) := by decide +kernel
theorem dd_L_law_669 : decode code 669 = .ok (.iload_n 3, 1) := by decide +kernel
theorem dd_L_law_670 : decode code 670 = .ok (.iconst 1, 1) := by decide +kernel
theorem dd_L_law_671 : decode code 671 = .ok (.iadd, 1) := by decide +kernel
theorem dd_L_law_672 : decode code 672 = .ok (.iaload, 1) := by decide +kernel
theorem dd_L_law_673 : decode code 673 = .ok (.aload_n 0, 1) := by decide +kernel
theorem dd_L_law_674 : decode code 674 = .ok (.iload_n 3, 1) := by decide +kernel
theorem dd_L_law_675 : decode code 675 = .ok (.iconst 2, 1) := by decide +kernel
theorem dd_L_law_676 : decode code 676 = .ok (.iadd, 1) := by decide +kernel
theorem dd_L_law_677 : decode code 677 = .ok (.iaload, 1) := by decide +kernel
theorem dd_L_law_678 : decode code 678 = .ok (.ifCond .eq 7, 3) := by decide +kernel
theorem dd_L_law_681 : decode code 681 = .ok (.iconst 1, 1) := by decide +kernel
theorem dd_L_law_682 : decode code 682 = .ok (.goto 4, 3) := by decide +kernel
theorem dd_L_law_685 : decode code 685 = .ok (.iconst 0, 1) := by decide +kernel
theorem dd_L_law_686 : decode code 686 = .ok (.invokevirtual 91, 3) := by decide +kernel
theorem dd_L_law_689 : decode code 689 = .ok (.aload_n 2, 1) := by decide +kernel
theorem dd_L_law_690 : decode code 690 = .ok (.aload_n 0, 1) := by decide +kernel
theorem dd_L_law_691 : decode code 691 = .ok (.iload_n 3, 1) := by decide +kernel
theorem dd_L_law_692 : decode code 692 = .ok (.iconst 1, 1) := by decide +kernel
theorem dd_L_law_693 : decode code 693 = .ok (.iadd, 1) := by decide +kernel
theorem dd_L_law_694 : decode code 694 = .ok (.iaload, 1) := by decide +kernel
theorem dd_L_law_695 : decode code 695 = .ok (.aload_n 0, 1) := by decide +kernel
theorem dd_L_law_696 : decode code 696 = .ok (.iload_n 3, 1) := by decide +kernel
theorem dd_L_law_697 : decode code 697 = .ok (.iconst 2, 1) := by decide +kernel
theorem dd_L_law_698 : decode code 698 = .ok (.iadd, 1) := by decide +kernel
theorem dd_L_law_699 : decode code 699 = .ok (.iaload, 1) := by decide +kernel
theorem dd_L_law_700 : decode code 700 = .ok (.ifCond .eq 7, 3) := by decide +kernel
theorem dd_L_law_703 : decode code 703 = .ok (.iconst 1, 1) := by decide +kernel
theorem dd_L_law_704 : decode code 704 = .ok (.goto 4, 3) := by decide +kernel
theorem dd_L_law_707 : decode code 707 = .ok (.iconst 0, 1) := by decide +kernel
theorem dd_L_law_708 : decode code 708 = .ok (.invokevirtual 95, 3) := by decide +kernel
theorem dd_L_law_711 : decode code 711 = .ok (.if_icmp .eq 98, 3) := by decide +kernel
theorem dd_L_law_714 : decode code 714 = .ok (.iconst 0, 1) := by decide +kernel
theorem dd_L_law_715 : decode code 715 = .ok (.ireturn, 1) := by decide +kernel
theorem dd_L_law_716 : decode code 716 = .ok (.aload_n 1, 1) := by decide +kernel
theorem dd_L_law_717 : decode code 717 = .ok (.aload_n 0, 1) := by decide +kernel
theorem dd_L_law_718 : decode code 718 = .ok (.iload_n 3, 1) := by decide +kernel
theorem dd_L_law_719 : decode code 719 = .ok (.iconst 1, 1) := by decide +kernel
theorem dd_L_law_720 : decode code 720 = .ok (.iadd, 1) := by decide +kernel
theorem dd_L_law_721 : decode code 721 = .ok (.iaload, 1) := by decide +kernel
theorem dd_L_law_722 : decode code 722 = .ok (.aload_n 0, 1) := by decide +kernel
theorem dd_L_law_723 : decode code 723 = .ok (.iload_n 3, 1) := by decide +kernel
theorem dd_L_law_724 : decode code 724 = .ok (.iconst 2, 1) := by decide +kernel
theorem dd_L_law_725 : decode code 725 = .ok (.iadd, 1) := by decide +kernel
theorem dd_L_law_726 : decode code 726 = .ok (.iaload, 1) := by decide +kernel
theorem dd_L_law_727 : decode code 727 = .ok (.ifCond .eq 7, 3) := by decide +kernel
theorem dd_L_law_730 : decode code 730 = .ok (.iconst 1, 1) := by decide +kernel
theorem dd_L_law_731 : decode code 731 = .ok (.goto 4, 3) := by decide +kernel
theorem dd_L_law_734 : decode code 734 = .ok (.iconst 0, 1) := by decide +kernel
theorem dd_L_law_735 : decode code 735 = .ok (.aload_n 0, 1) := by decide +kernel
theorem dd_L_law_736 : decode code 736 = .ok (.iload_n 3, 1) := by decide +kernel
theorem dd_L_law_737 : decode code 737 = .ok (.iconst 3, 1) := by decide +kernel
theorem dd_L_law_738 : decode code 738 = .ok (.iadd, 1) := by decide +kernel
theorem dd_L_law_739 : decode code 739 = .ok (.iaload, 1) := by decide +kernel
theorem dd_L_law_740 : decode code 740 = .ok (.invokevirtual 96, 3) := by decide +kernel
theorem dd_L_law_743 : decode code 743 = .ok (.aload_n 2, 1) := by decide +kernel
theorem dd_L_law_744 : decode code 744 = .ok (.aload_n 0, 1) := by decide +kernel
theorem dd_L_law_745 : decode code 745 = .ok (.iload_n 3, 1) := by decide +kernel
theorem dd_L_law_746 : decode code 746 = .ok (.iconst 1, 1) := by decide +kernel
theorem dd_L_law_747 : decode code 747 = .ok (.iadd, 1) := by decide +kernel
theorem dd_L_law_748 : decode code 748 = .ok (.iaload, 1) := by decide +kernel
theorem dd_L_law_749 : decode code 749 = .ok (.aload_n 0, 1) := by decide +kernel
theorem dd_L_law_750 : decode code 750 = .ok (.iload_n 3, 1) := by decide +kernel
theorem dd_L_law_751 : decode code 751 = .ok (.iconst 2, 1) := by decide +kernel
theorem dd_L_law_752 : decode code 752 = .ok (.iadd, 1) := by decide +kernel
theorem dd_L_law_753 : decode code 753 = .ok (.iaload, 1) := by decide +kernel
theorem dd_L_law_754 : decode code 754 = .ok (.ifCond .eq 7, 3) := by decide +kernel
theorem dd_L_law_757 : decode code 757 = .ok (.iconst 1, 1) := by decide +kernel
theorem dd_L_law_758 : decode code 758 = .ok (.goto 4, 3) := by decide +kernel
theorem dd_L_law_761 : decode code 761 = .ok (.iconst 0, 1) := by decide +kernel
theorem dd_L_law_762 : decode code 762 = .ok (.aload_n 0, 1) := by decide +kernel
theorem dd_L_law_763 : decode code 763 = .ok (.iload_n 3, 1) := by decide +kernel
theorem dd_L_law_764 : decode code 764 = .ok (.iconst 3, 1) := by decide +kernel
theorem dd_L_law_765 : decode code 765 = .ok (.iadd, 1) := by decide +kernel
theorem dd_L_law_766 : decode code 766 = .ok (.iaload, 1) := by decide +kernel
theorem dd_L_law_767 : decode code 767 = .ok (.invokevirtual 100, 3) := by decide +kernel
theorem dd_L_law_770 : decode code 770 = .ok (.lcmp, 1) := by decide +kernel
theorem dd_L_law_771 : decode code 771 = .ok (.ifCond .eq 38, 3) := by decide +kernel
theorem dd_L_law_774 : decode code 774 = .ok (.iconst 0, 1) := by decide +kernel
theorem dd_L_law_775 : decode code 775 = .ok (.ireturn, 1) := by decide +kernel
theorem dd_L_law_776 : decode code 776 = .ok (.aload_n 1, 1) := by decide +kernel
theorem dd_L_law_777 : decode code 777 = .ok (.aload_n 0, 1) := by decide +kernel
theorem dd_L_law_778 : decode code 778 = .ok (.iload_n 3, 1) := by decide +kernel
theorem dd_L_law_779 : decode code 779 = .ok (.iconst 1, 1) := by decide +kernel
theorem dd_L_law_780 : decode code 780 = .ok (.iadd, 1) := by decide +kernel
theorem dd_L_law_781 : decode code 781 = .ok (.iaload, 1) := by decide +kernel
theorem dd_L_law_782 : decode code 782 = .ok (.aload_n 0, 1) := by decide +kernel
theorem dd_L_law_783 : decode code 783 = .ok (.iload_n 3, 1) := by decide +kernel
theorem dd_L_law_784 : decode code 784 = .ok (.iconst 2, 1) := by decide +kernel
theorem dd_L_law_785 : decode code 785 = .ok (.iadd, 1) := by decide +kernel
theorem dd_L_law_786 : decode code 786 = .ok (.iaload, 1) := by decide +kernel
theorem dd_L_law_787 : decode code 787 = .ok (.invokevirtual 101, 3) := by decide +kernel
theorem dd_L_law_790 : decode code 790 = .ok (.aload_n 2, 1) := by decide +kernel
theorem dd_L_law_791 : decode code 791 = .ok (.aload_n 0, 1) := by decide +kernel
theorem dd_L_law_792 : decode code 792 = .ok (.iload_n 3, 1) := by decide +kernel
theorem dd_L_law_793 : decode code 793 = .ok (.iconst 1, 1) := by decide +kernel
theorem dd_L_law_794 : decode code 794 = .ok (.iadd, 1) := by decide +kernel
theorem dd_L_law_795 : decode code 795 = .ok (.iaload, 1) := by decide +kernel
theorem dd_L_law_796 : decode code 796 = .ok (.aload_n 0, 1) := by decide +kernel
theorem dd_L_law_797 : decode code 797 = .ok (.iload_n 3, 1) := by decide +kernel
theorem dd_L_law_798 : decode code 798 = .ok (.iconst 2, 1) := by decide +kernel
theorem dd_L_law_799 : decode code 799 = .ok (.iadd, 1) := by decide +kernel
theorem dd_L_law_800 : decode code 800 = .ok (.iaload, 1) := by decide +kernel
theorem dd_L_law_801 : decode code 801 = .ok (.invokevirtual 104, 3) := by decide +kernel
theorem dd_L_law_804 : decode code 804 = .ok (.if_icmp .eq 5, 3) := by decide +kernel
theorem dd_L_law_807 : decode code 807 = .ok (.iconst 0, 1) := by decide +kernel
theorem dd_L_law_808 : decode code 808 = .ok (.ireturn, 1) := by decide +kernel
theorem dd_L_law_809 : decode code 809 = .ok (.iinc 3 7, 3) := by decide +kernel
theorem dd_L_law_812 : decode code 812 = .ok (.goto (-784), 3) := by decide +kernel
theorem dd_L_law_815 : decode code 815 = .ok (.iconst 1, 1) := by decide +kernel
theorem dd_L_law_816 : decode code 816 = .ok (.ireturn, 1) := by decide +kernel
