theorem dJ6_bitCount_0f7a4_9 : decode mJ6_bitCount_0f7a4.2.1 9 = .ok (.istore_n 0, 1) := by decide +kernel
theorem dJ6_bitCount_0f7a4_10 : decode mJ6_bitCount_0f7a4.2.1 10 = .ok (.iload_n 0, 1) := by decide +kernel
theorem dJ6_bitCount_0f7a4_11 : decode mJ6_bitCount_0f7a4.2.1 11 = .ok (.ldc_w 266, 3) := by decide +kernel
theorem dJ6_bitCount_0f7a4_14 : decode mJ6_bitCount_0f7a4.2.1 14 = .ok (.iand, 1) := by decide +kernel
theorem dJ6_bitCount_0f7a4_15 : decode mJ6_bitCount_0f7a4.2.1 15 = .ok (.iload_n 0, 1) := by decide +kernel
theorem dJ6_bitCount_0f7a4_16 : decode mJ6_bitCount_0f7a4.2.1 16 = .ok (.iconst 2, 1) := by decide +kernel
theorem dJ6_bitCount_0f7a4_17 : decode mJ6_bitCount_0f7a4.2.1 17 = .ok (.iushr, 1) := by decide +kernel
theorem dJ6_bitCount_0f7a4_18 : decode mJ6_bitCount_0f7a4.2.1 18 = .ok (.ldc_w 266, 3) := by decide +kernel
theorem dJ6_bitCount_0f7a4_21 : decode mJ6_bitCount_0f7a4.2.1 21 = .ok (.iand, 1) := by decide +kernel
theorem dJ6_bitCount_0f7a4_22 : decode mJ6_bitCount_0f7a4.2.1 22 = .ok (.iadd, 1) := by decide +kernel
theorem dJ6_bitCount_0f7a4_23 : decode mJ6_bitCount_0f7a4.2.1 23 = .ok (.istore_n 0, 1) := by decide +kernel
theorem dJ6_bitCount_0f7a4_24 : decode mJ6_bitCount_0f7a4.2.1 24 = .ok (.iload_n 0, 1) := by decide +kernel
theorem dJ6_bitCount_0f7a4_25 : decode mJ6_bitCount_0f7a4.2.1 25 = .ok (.iload_n 0, 1) := by decide +kernel
theorem dJ6_bitCount_0f7a4_26 : decode mJ6_bitCount_0f7a4.2.1 26 = .ok (.iconst 4, 1) := by decide +kernel
theorem dJ6_bitCount_0f7a4_27 : decode mJ6_bitCount_0f7a4.2.1 27 = .ok (.iushr, 1) := by decide +kernel
theorem dJ6_bitCount_0f7a4_28 : decode mJ6_bitCount_0f7a4.2.1 28 = .ok (.iadd, 1) := by decide +kernel
theorem dJ6_bitCount_0f7a4_29 : decode mJ6_bitCount_0f7a4.2.1 29 = .ok (.ldc_w 267, 3) := by decide +kernel
theorem dJ6_bitCount_0f7a4_32 : decode mJ6_bitCount_0f7a4.2.1 32 = .ok (.iand, 1) := by decide +kernel
theorem dJ6_bitCount_0f7a4_33 : decode mJ6_bitCount_0f7a4.2.1 33 = .ok (.istore_n 0, 1) := by decide +kernel
theorem dJ6_bitCount_0f7a4_34 : decode mJ6_bitCount_0f7a4.2.1 34 = .ok (.iload_n 0, 1) := by decide +kernel
theorem dJ6_bitCount_0f7a4_35 : decode mJ6_bitCount_0f7a4.2.1 35 = .ok (.iload_n 0, 1) := by decide +kernel
theorem dJ6_bitCount_0f7a4_36 : decode mJ6_bitCount_0f7a4.2.1 36 = .ok (.bipush 8, 2) := by decide +kernel
theorem dJ6_bitCount_0f7a4_38 : decode mJ6_bitCount_0f7a4.2.1 38 = .ok (.iushr, 1) := by decide +kernel
theorem dJ6_bitCount_0f7a4_39 : decode mJ6_bitCount_0f7a4.2.1 39 = .ok (.iadd, 1) := by decide +kernel
theorem dJ6_bitCount_0f7a4_40 : decode mJ6_bitCount_0f7a4.2.1 40 = .ok (.istore_n 0, 1) := by decide +kernel
theorem dJ6_bitCount_0f7a4_41 : decode mJ6_bitCount_0f7a4.2.1 41 = .ok (.iload_n 0, 1) := by decide +kernel
theorem dJ6_bitCount_0f7a4_42 : decode mJ6_bitCount_0f7a4.2.1 42 = .ok (.iload_n 0, 1) := by decide +kernel
theorem dJ6_bitCount_0f7a4_43 : decode mJ6_bitCount_0f7a4.2.1 43 = .ok (.bipush 16, 2) := by decide +kernel
theorem dJ6_bitCount_0f7a4_45 : decode mJ6_bitCount_0f7a4.2.1 45 = .ok (.iushr, 1) := by decide +kernel
theorem dJ6_bitCount_0f7a4_46 : decode mJ6_bitCount_0f7a4.2.1 46 = .ok (.iadd, 1) := by decide +kernel
theorem dJ6_bitCount_0f7a4_47 : decode mJ6_bitCount_0f7a4.2.1 47 = .ok (.istore_n 0, 1) := by decide +kernel
theorem dJ6_bitCount_0f7a4_48 : decode mJ6_bitCount_0f7a4.2.1 48 = .ok (.iload_n 0, 1) := by decide +kernel
theorem dJ6_bitCount_0f7a4_49 : decode mJ6_bitCount_0f7a4.2.1 49 = .ok (.bipush 63, 2) := by decide +kernel
theorem dJ6_bitCount_0f7a4_51 : decode mJ6_bitCount_0f7a4.2.1 51 = .ok (.iand, 1) := by decide +kernel
theorem dJ6_bitCount_0f7a4_52 : decode mJ6_bitCount_0f7a4.2.1 52 = .ok (.ireturn, 1) := by decide +kernel
theorem dJ9_abs_0f7a4_0 : decode mJ9_abs_0f7a4.2.1 0 = .ok (.iload_n 0, 1) := by decide +kernel
theorem dJ9_abs_0f7a4_1 : decode mJ9_abs_0f7a4.2.1 1 = .ok (.ifCond .ge 8, 3) := by decide +kernel
theorem dJ9_abs_0f7a4_4 : decode mJ9_abs_0f7a4.2.1 4 = .ok (.iload_n 0, 1) := by decide +kernel
theorem dJ9_abs_0f7a4_5 : decode mJ9_abs_0f7a4.2.1 5 = .ok (.ineg, 1) := by decide +kernel
theorem dJ9_abs_0f7a4_6 : decode mJ9_abs_0f7a4.2.1 6 = .ok (.goto 4, 3) := by decide +kernel
theorem dJ9_abs_0f7a4_9 : decode mJ9_abs_0f7a4.2.1 9 = .ok (.iload_n 0, 1) := by decide +kernel
theorem dJ9_abs_0f7a4_10 : decode mJ9_abs_0f7a4.2.1 10 = .ok (.ireturn, 1) := by decide +kernel
theorem dJ9_max_7cf53_0 : decode mJ9_max_7cf53.2.1 0 = .ok (.iload_n 0, 1) := by decide +kernel
theorem dJ9_max_7cf53_1 : decode mJ9_max_7cf53.2.1 1 = .ok (.iload_n 1, 1) := by decide +kernel
theorem dJ9_max_7cf53_2 : decode mJ9_max_7cf53.2.1 2 = .ok (.if_icmp .lt 7, 3) := by decide +kernel
theorem dJ9_max_7cf53_5 : decode mJ9_max_7cf53.2.1 5 = .ok (.iload_n 0, 1) := by decide +kernel
theorem dJ9_max_7cf53_6 : decode mJ9_max_7cf53.2.1 6 = .ok (.goto 4, 3) := by decide +kernel
theorem dJ9_max_7cf53_9 : decode mJ9_max_7cf53.2.1 9 = .ok (.iload_n 1, 1) := by decide +kernel
theorem dJ9_max_7cf53_10 : decode mJ9_max_7cf53.2.1 10 = .ok (.ireturn, 1) := by decide +kernel
theorem dJ9_min_7cf53_0 : decode mJ9_min_7cf53.2.1 0 = .ok (.iload_n 0, 1) := by decide +kernel
theorem dJ9_min_7cf53_1 : decode mJ9_min_7cf53.2.1 1 = .ok (.iload_n 1, 1) := by decide +kernel
theorem dJ9_min_7cf53_2 : decode mJ9_min_7cf53.2.1 2 = .ok (.if_icmp .gt 7, 3) := by decide +kernel
theorem dJ9_min_7cf53_5 : decode mJ9_min_7cf53.2.1 5 = .ok (.iload_n 0, 1) := by decide +kernel
theorem dJ9_min_7cf53_6 : decode mJ9_min_7cf53.2.1 6 = .ok (.goto 4, 3) := by decide +kernel
theorem dJ9_min_7cf53_9 : decode mJ9_min_7cf53.2.1 9 = .ok (.iload_n 1, 1) := by decide +kernel
theorem dJ9_min_7cf53_10 : decode mJ9_min_7cf53.2.1 10 = .ok (.ireturn, 1) := by decide +kernel
theorem dL_law_0 : decode mL_law.2.1 0 = .ok (.new 7, 3) := by decide +kernel
theorem dL_law_3 : decode mL_law.2.1 3 = .ok (.dup, 1) := by decide +kernel
theorem dL_law_4 : decode mL_law.2.1 4 = .ok (.invokespecial 9, 3) := by decide +kernel
theorem dL_law_7 : decode mL_law.2.1 7 = .ok (.astore_n 1, 1) := by decide +kernel
theorem dL_law_8 : decode mL_law.2.1 8 = .ok (.new 10, 3) := by decide +kernel
theorem dL_law_11 : decode mL_law.2.1 11 = .ok (.dup, 1) := by decide +kernel
theorem dL_law_12 : decode mL_law.2.1 12 = .ok (.invokespecial 12, 3) := by decide +kernel
theorem dL_law_15 : decode mL_law.2.1 15 = .ok (.astore_n 2, 1) := by decide +kernel
theorem dL_law_16 : decode mL_law.2.1 16 = .ok (.iconst 0, 1) := by decide +kernel
theorem dL_law_17 : decode mL_law.2.1 17 = .ok (.istore_n 3, 1) := by decide +kernel
theorem dL_law_18 : decode mL_law.2.1 18 = .ok (.iload_n 3, 1) := by decide +kernel
theorem dL_law_19 : decode mL_law.2.1 19 = .ok (.aload_n 0, 1) := by decide +kernel
theorem dL_law_20 : decode mL_law.2.1 20 = .ok (.arraylength, 1) := by decide +kernel
theorem dL_law_21 : decode mL_law.2.1 21 = .ok (.iconst 4, 1) := by decide +kernel
theorem dL_law_22 : decode mL_law.2.1 22 = .ok (.isub, 1) := by decide +kernel
theorem dL_law_23 : decode mL_law.2.1 23 = .ok (.if_icmp .gt 791, 3) := by decide +kernel
theorem dL_law_26 : decode mL_law.2.1 26 = .ok (.aload_n 0, 1) := by decide +kernel
theorem dL_law_27 : decode mL_law.2.1 27 = .ok (.iload_n 3, 1) := by decide +kernel
theorem dL_law_28 : decode mL_law.2.1 28 = .ok (.iaload, 1) := by decide +kernel
theorem dL_law_29 : decode mL_law.2.1 29 = .ok (.bipush 31, 2) := by decide +kernel
theorem dL_law_31 : decode mL_law.2.1 31 = .ok (.iand, 1) := by decide +kernel
theorem dL_law_32 : decode mL_law.2.1 32 = .ok (.tableswitch 776 0 26 #[124, 147, 160, 173, 206, 239, 262, 285, 308, 331, 364, 397, 420, 433, 446, 469, 502, 515, 538, 551, 584, 617, 660, 693, 716, 739, 762], 124) := by decide +kernel
theorem dL_law_156 : decode mL_law.2.1 156 = .ok (.aload_n 1, 1) := by decide +kernel
theorem dL_law_157 : decode mL_law.2.1 157 = .ok (.aload_n 0, 1) := by decide +kernel
theorem dL_law_158 : decode mL_law.2.1 158 = .ok (.iload_n 3, 1) := by decide +kernel
theorem dL_law_159 : decode mL_law.2.1 159 = .ok (.iconst 1, 1) := by decide +kernel
theorem dL_law_160 : decode mL_law.2.1 160 = .ok (.iadd, 1) := by decide +kernel
theorem dL_law_161 : decode mL_law.2.1 161 = .ok (.iaload, 1) := by decide +kernel
theorem dL_law_162 : decode mL_law.2.1 162 = .ok (.invokevirtual 13, 3) := by decide +kernel
theorem dL_law_165 : decode mL_law.2.1 165 = .ok (.aload_n 2, 1) := by decide +kernel
theorem dL_law_166 : decode mL_law.2.1 166 = .ok (.aload_n 0, 1) := by decide +kernel
theorem dL_law_167 : decode mL_law.2.1 167 = .ok (.iload_n 3, 1) := by decide +kernel
theorem dL_law_168 : decode mL_law.2.1 168 = .ok (.iconst 1, 1) := by decide +kernel
theorem dL_law_169 : decode mL_law.2.1 169 = .ok (.iadd, 1) := by decide +kernel
theorem dL_law_170 : decode mL_law.2.1 170 = .ok (.iaload, 1) := by decide +kernel
theorem dL_law_171 : decode mL_law.2.1 171 = .ok (.invokevirtual 17, 3) := by decide +kernel
theorem dL_law_174 : decode mL_law.2.1 174 = .ok (.if_icmp .eq 634, 3) := by decide +kernel
theorem dL_law_177 : decode mL_law.2.1 177 = .ok (.iconst 0, 1) := by decide +kernel
theorem dL_law_178 : decode mL_law.2.1 178 = .ok (.ireturn, 1) := by decide +kernel
theorem dL_law_179 : decode mL_law.2.1 179 = .ok (.aload_n 1, 1) := by decide +kernel
theorem dL_law_180 : decode mL_law.2.1 180 = .ok (.invokevirtual 18, 3) := by decide +kernel
theorem dL_law_183 : decode mL_law.2.1 183 = .ok (.aload_n 2, 1) := by decide +kernel
theorem dL_law_184 : decode mL_law.2.1 184 = .ok (.invokevirtual 22, 3) := by decide +kernel
theorem dL_law_187 : decode mL_law.2.1 187 = .ok (.if_icmp .eq 621, 3) := by decide +kernel
theorem dL_law_190 : decode mL_law.2.1 190 = .ok (.iconst 0, 1) := by decide +kernel
theorem dL_law_191 : decode mL_law.2.1 191 = .ok (.ireturn, 1) := by decide +kernel
theorem dL_law_192 : decode mL_law.2.1 192 = .ok (.aload_n 1, 1) := by decide +kernel
theorem dL_law_193 : decode mL_law.2.1 193 = .ok (.invokevirtual 23, 3) := by decide +kernel
theorem dL_law_196 : decode mL_law.2.1 196 = .ok (.aload_n 2, 1) := by decide +kernel
theorem dL_law_197 : decode mL_law.2.1 197 = .ok (.invokevirtual 26, 3) := by decide +kernel
theorem dL_law_200 : decode mL_law.2.1 200 = .ok (.if_icmp .eq 608, 3) := by decide +kernel
theorem dL_law_203 : decode mL_law.2.1 203 = .ok (.iconst 0, 1) := by decide +kernel
theorem dL_law_204 : decode mL_law.2.1 204 = .ok (.ireturn, 1) := by decide +kernel
theorem dL_law_205 : decode mL_law.2.1 205 = .ok (.aload_n 1, 1) := by decide +kernel
theorem dL_law_206 : decode mL_law.2.1 206 = .ok (.aload_n 0, 1) := by decide +kernel
theorem dL_law_207 : decode mL_law.2.1 207 = .ok (.iload_n 3, 1) := by decide +kernel
theorem dL_law_208 : decode mL_law.2.1 208 = .ok (.iconst 1, 1) := by decide +kernel
theorem dL_law_209 : decode mL_law.2.1 209 = .ok (.iadd, 1) := by decide +kernel
theorem dL_law_210 : decode mL_law.2.1 210 = .ok (.iaload, 1) := by decide +kernel
theorem dL_law_211 : decode mL_law.2.1 211 = .ok (.aload_n 0, 1) := by decide +kernel
theorem dL_law_212 : decode mL_law.2.1 212 = .ok (.iload_n 3, 1) := by decide +kernel
theorem dL_law_213 : decode mL_law.2.1 213 = .ok (.iconst 2, 1) := by decide +kernel
theorem dL_law_214 : decode mL_law.2.1 214 = .ok (.iadd, 1) := by decide +kernel
theorem dL_law_215 : decode mL_law.2.1 215 = .ok (.iaload, 1) := by decide +kernel
theorem dL_law_216 : decode mL_law.2.1 216 = .ok (.invokevirtual 27, 3) := by decide +kernel
theorem dL_law_219 : decode mL_law.2.1 219 = .ok (.aload_n 2, 1) := by decide +kernel
theorem dL_law_220 : decode mL_law.2.1 220 = .ok (.aload_n 0, 1) := by decide +kernel
theorem dL_law_221 : decode mL_law.2.1 221 = .ok (.iload_n 3, 1) := by decide +kernel
theorem dL_law_222 : decode mL_law.2.1 222 = .ok (.iconst 1, 1) := by decide +kernel
theorem dL_law_223 : decode mL_law.2.1 223 = .ok (.iadd, 1) := by decide +kernel
theorem dL_law_224 : decode mL_law.2.1 224 = .ok (.iaload, 1) := by decide +kernel
theorem dL_law_225 : decode mL_law.2.1 225 = .ok (.aload_n 0, 1) := by decide +kernel
theorem dL_law_226 : decode mL_law.2.1 226 = .ok (.iload_n 3, 1) := by decide +kernel
theorem dL_law_227 : decode mL_law.2.1 227 = .ok (.iconst 2, 1) := by decide +kernel
theorem dL_law_228 : decode mL_law.2.1 228 = .ok (.iadd, 1) := by decide +kernel
theorem dL_law_229 : decode mL_law.2.1 229 = .ok (.iaload, 1) := by decide +kernel
theorem dL_law_230 : decode mL_law.2.1 230 = .ok (.invokevirtual 31, 3) := by decide +kernel
theorem dL_law_233 : decode mL_law.2.1 233 = .ok (.if_icmp .eq 575, 3) := by decide +kernel
theorem dL_law_236 : decode mL_law.2.1 236 = .ok (.iconst 0, 1) := by decide +kernel
theorem dL_law_237 : decode mL_law.2.1 237 = .ok (.ireturn, 1) := by decide +kernel
theorem dL_law_238 : decode mL_law.2.1 238 = .ok (.aload_n 1, 1) := by decide +kernel
theorem dL_law_239 : decode mL_law.2.1 239 = .ok (.aload_n 0, 1) := by decide +kernel
theorem dL_law_240 : decode mL_law.2.1 240 = .ok (.iload_n 3, 1) := by decide +kernel
theorem dL_law_241 : decode mL_law.2.1 241 = .ok (.iconst 1, 1) := by decide +kernel
theorem dL_law_242 : decode mL_law.2.1 242 = .ok (.iadd, 1) := by decide +kernel
theorem dL_law_243 : decode mL_law.2.1 243 = .ok (.iaload, 1) := by decide +kernel
theorem dL_law_244 : decode mL_law.2.1 244 = .ok (.aload_n 0, 1) := by decide +kernel
theorem dL_law_245 : decode mL_law.2.1 245 = .ok (.iload_n 3, 1) := by decide +kernel
theorem dL_law_246 : decode mL_law.2.1 246 = .ok (.iconst 2, 1) := by decide +kernel
theorem dL_law_247 : decode mL_law.2.1 247 = .ok (.iadd, 1) := by decide +kernel
theorem dL_law_248 : decode mL_law.2.1 248 = .ok (.iaload, 1) := by decide +kernel
theorem dL_law_249 : decode mL_law.2.1 249 = .ok (.invokevirtual 32, 3) := by decide +kernel
theorem dL_law_252 : decode mL_law.2.1 252 = .ok (.aload_n 2, 1) := by decide +kernel
theorem dL_law_253 : decode mL_law.2.1 253 = .ok (.aload_n 0, 1) := by decide +kernel
theorem dL_law_254 : decode mL_law.2.1 254 = .ok (.iload_n 3, 1) := by decide +kernel
theorem dL_law_255 : decode mL_law.2.1 255 = .ok (.iconst 1, 1) := by decide +kernel
theorem dL_law_256 : decode mL_law.2.1 256 = .ok (.iadd, 1) := by decide +kernel
theorem dL_law_257 : decode mL_law.2.1 257 = .ok (.iaload, 1) := by decide +kernel
theorem dL_law_258 : decode mL_law.2.1 258 = .ok (.aload_n 0, 1) := by decide +kernel
theorem dL_law_259 : decode mL_law.2.1 259 = .ok (.iload_n 3, 1) := by decide +kernel
theorem dL_law_260 : decode mL_law.2.1 260 = .ok (.iconst 2, 1) := by decide +kernel
theorem dL_law_261 : decode mL_law.2.1 261 = .ok (.iadd, 1) := by decide +kernel
theorem dL_law_262 : decode mL_law.2.1 262 = .ok (.iaload, 1) := by decide +kernel
theorem dL_law_263 : decode mL_law.2.1 263 = .ok (.invokevirtual 35, 3) := by decide +kernel
theorem dL_law_266 : decode mL_law.2.1 266 = .ok (.if_icmp .eq 542, 3) := by decide +kernel
theorem dL_law_269 : decode mL_law.2.1 269 = .ok (.iconst 0, 1) := by decide +kernel
theorem dL_law_270 : decode mL_law.2.1 270 = .ok (.ireturn, 1) := by decide +kernel
theorem dL_law_271 : decode mL_law.2.1 271 = .ok (.aload_n 1, 1) := by decide +kernel
theorem dL_law_272 : decode mL_law.2.1 272 = .ok (.aload_n 0, 1) := by decide +kernel
theorem dL_law_273 : decode mL_law.2.1 273 = .ok (.iload_n 3, 1) := by decide +kernel
theorem dL_law_274 : decode mL_law.2.1 274 = .ok (.iconst 1, 1) := by decide +kernel
theorem dL_law_275 : decode mL_law.2.1 275 = .ok (.iadd, 1) := by decide +kernel
theorem dL_law_276 : decode mL_law.2.1 276 = .ok (.iaload, 1) := by decide +kernel
theorem dL_law_277 : decode mL_law.2.1 277 = .ok (.invokevirtual 36, 3) := by decide +kernel
theorem dL_law_280 : decode mL_law.2.1 280 = .ok (.aload_n 2, 1) := by decide +kernel
theorem dL_law_281 : decode mL_law.2.1 281 = .ok (.aload_n 0, 1) := by decide +kernel
theorem dL_law_282 : decode mL_law.2.1 282 = .ok (.iload_n 3, 1) := by decide +kernel
theorem dL_law_283 : decode mL_law.2.1 283 = .ok (.iconst 1, 1) := by decide +kernel
theorem dL_law_284 : decode mL_law.2.1 284 = .ok (.iadd, 1) := by decide +kernel
theorem dL_law_285 : decode mL_law.2.1 285 = .ok (.iaload, 1) := by decide +kernel
theorem dL_law_286 : decode mL_law.2.1 286 = .ok (.invokevirtual 39, 3) := by decide +kernel
theorem dL_law_289 : decode mL_law.2.1 289 = .ok (.if_icmp .eq 519, 3) := by decide +kernel
theorem dL_law_292 : decode mL_law.2.1 292 = .ok (.iconst 0, 1) := by decide +kernel
theorem dL_law_293 : decode mL_law.2.1 293 = .ok (.ireturn, 1) := by decide +kernel
theorem dL_law_294 : decode mL_law.2.1 294 = .ok (.aload_n 1, 1) := by decide +kernel
theorem dL_law_295 : decode mL_law.2.1 295 = .ok (.aload_n 0, 1) := by decide +kernel
theorem dL_law_296 : decode mL_law.2.1 296 = .ok (.iload_n 3, 1) := by decide +kernel
theorem dL_law_297 : decode mL_law.2.1 297 = .ok (.iconst 1, 1) := by decide +kernel
theorem dL_law_298 : decode mL_law.2.1 298 = .ok (.iadd, 1) := by decide +kernel
theorem dL_law_299 : decode mL_law.2.1 299 = .ok (.iaload, 1) := by decide +kernel
theorem dL_law_300 : decode mL_law.2.1 300 = .ok (.invokevirtual 40, 3) := by decide +kernel
theorem dL_law_303 : decode mL_law.2.1 303 = .ok (.aload_n 2, 1) := by decide +kernel
theorem dL_law_304 : decode mL_law.2.1 304 = .ok (.aload_n 0, 1) := by decide +kernel
theorem dL_law_305 : decode mL_law.2.1 305 = .ok (.iload_n 3, 1) := by decide +kernel
theorem dL_law_306 : decode mL_law.2.1 306 = .ok (.iconst 1, 1) := by decide +kernel
theorem dL_law_307 : decode mL_law.2.1 307 = .ok (.iadd, 1) := by decide +kernel
theorem dL_law_308 : decode mL_law.2.1 308 = .ok (.iaload, 1) := by decide +kernel
theorem dL_law_309 : decode mL_law.2.1 309 = .ok (.invokevirtual 43, 3) := by decide +kernel
theorem dL_law_312 : decode mL_law.2.1 312 = .ok (.if_icmp .eq 496, 3) := by decide +kernel
theorem dL_law_315 : decode mL_law.2.1 315 = .ok (.iconst 0, 1) := by decide +kernel
theorem dL_law_316 : decode mL_law.2.1 316 = .ok (.ireturn, 1) := by decide +kernel
theorem dL_law_317 : decode mL_law.2.1 317 = .ok (.aload_n 1, 1) := by decide +kernel
theorem dL_law_318 : decode mL_law.2.1 318 = .ok (.aload_n 0, 1) := by decide +kernel
theorem dL_law_319 : decode mL_law.2.1 319 = .ok (.iload_n 3, 1) := by decide +kernel
theorem dL_law_320 : decode mL_law.2.1 320 = .ok (.iconst 1, 1) := by decide +kernel
theorem dL_law_321 : decode mL_law.2.1 321 = .ok (.iadd, 1) := by decide +kernel
theorem dL_law_322 : decode mL_law.2.1 322 = .ok (.iaload, 1) := by decide +kernel
theorem dL_law_323 : decode mL_law.2.1 323 = .ok (.invokevirtual 44, 3) := by decide +kernel
theorem dL_law_326 : decode mL_law.2.1 326 = .ok (.aload_n 2, 1) := by decide +kernel
theorem dL_law_327 : decode mL_law.2.1 327 = .ok (.aload_n 0, 1) := by decide +kernel
theorem dL_law_328 : decode mL_law.2.1 328 = .ok (.iload_n 3, 1) := by decide +kernel
theorem dL_law_329 : decode mL_law.2.1 329 = .ok (.iconst 1, 1) := by decide +kernel
theorem dL_law_330 : decode mL_law.2.1 330 = .ok (.iadd, 1) := by decide +kernel
theorem dL_law_331 : decode mL_law.2.1 331 = .ok (.iaload, 1) := by decide +kernel
theorem dL_law_332 : decode mL_law.2.1 332 = .ok (.invokevirtual 47, 3) := by decide +kernel
theorem dL_law_335 : decode mL_law.2.1 335 = .ok (.if_icmp .eq 473, 3) := by decide +kernel
theorem dL_law_338 : decode mL_law.2.1 338 = .ok (.iconst 0, 1) := by decide +kernel
theorem dL_law_339 : decode mL_law.2.1 339 = .ok (.ireturn, 1) := by decide +kernel
theorem dL_law_340 : decode mL_law.2.1 340 = .ok (.aload_n 1, 1) := by decide +kernel
theorem dL_law_341 : decode mL_law.2.1 341 = .ok (.aload_n 0, 1) := by decide +kernel
theorem dL_law_342 : decode mL_law.2.1 342 = .ok (.iload_n 3, 1) := by decide +kernel
theorem dL_law_343 : decode mL_law.2.1 343 = .ok (.iconst 1, 1) := by decide +kernel
theorem dL_law_344 : decode mL_law.2.1 344 = .ok (.iadd, 1) := by decide +kernel
theorem dL_law_345 : decode mL_law.2.1 345 = .ok (.iaload, 1) := by decide +kernel
theorem dL_law_346 : decode mL_law.2.1 346 = .ok (.invokevirtual 48, 3) := by decide +kernel
theorem dL_law_349 : decode mL_law.2.1 349 = .ok (.aload_n 2, 1) := by decide +kernel
theorem dL_law_350 : decode mL_law.2.1 350 = .ok (.aload_n 0, 1) := by decide +kernel
theorem dL_law_351 : decode mL_law.2.1 351 = .ok (.iload_n 3, 1) := by decide +kernel
theorem dL_law_352 : decode mL_law.2.1 352 = .ok (.iconst 1, 1) := by decide +kernel
theorem dL_law_353 : decode mL_law.2.1 353 = .ok (.iadd, 1) := by decide +kernel
theorem dL_law_354 : decode mL_law.2.1 354 = .ok (.iaload, 1) := by decide +kernel
theorem dL_law_355 : decode mL_law.2.1 355 = .ok (.invokevirtual 51, 3) := by decide +kernel
theorem dL_law_358 : decode mL_law.2.1 358 = .ok (.if_icmp .eq 450, 3) := by decide +kernel
theorem dL_law_361 : decode mL_law.2.1 361 = .ok (.iconst 0, 1) := by decide +kernel
theorem dL_law_362 : decode mL_law.2.1 362 = .ok (.ireturn, 1) := by decide +kernel
theorem dL_law_363 : decode mL_law.2.1 363 = .ok (.aload_n 1, 1) := by decide +kernel
theorem dL_law_364 : decode mL_law.2.1 364 = .ok (.aload_n 0, 1) := by decide +kernel
theorem dL_law_365 : decode mL_law.2.1 365 = .ok (.iload_n 3, 1) := by decide +kernel
theorem dL_law_366 : decode mL_law.2.1 366 = .ok (.iconst 1, 1) := by decide +kernel
theorem dL_law_367 : decode mL_law.2.1 367 = .ok (.iadd, 1) := by decide +kernel
theorem dL_law_368 : decode mL_law.2.1 368 = .ok (.iaload, 1) := by decide +kernel
theorem dL_law_369 : decode mL_law.2.1 369 = .ok (.aload_n 0, 1) := by decide +kernel
theorem dL_law_370 : decode mL_law.2.1 370 = .ok (.iload_n 3, 1) := by decide +kernel
theorem dL_law_371 : decode mL_law.2.1 371 = .ok (.iconst 2, 1) := by decide +kernel
theorem dL_law_372 : decode mL_law.2.1 372 = .ok (.iadd, 1) := by decide +kernel
theorem dL_law_373 : decode mL_law.2.1 373 = .ok (.iaload, 1) := by decide +kernel
theorem dL_law_374 : decode mL_law.2.1 374 = .ok (.invokevirtual 52, 3) := by decide +kernel
theorem dL_law_377 : decode mL_law.2.1 377 = .ok (.aload_n 2, 1) := by decide +kernel
theorem dL_law_378 : decode mL_law.2.1 378 = .ok (.aload_n 0, 1) := by decide +kernel
theorem dL_law_379 : decode mL_law.2.1 379 = .ok (.iload_n 3, 1) := by decide +kernel
theorem dL_law_380 : decode mL_law.2.1 380 = .ok (.iconst 1, 1) := by decide +kernel
theorem dL_law_381 : decode mL_law.2.1 381 = .ok (.iadd, 1) := by decide +kernel
theorem dL_law_382 : decode mL_law.2.1 382 = .ok (.iaload, 1) := by decide +kernel
theorem dL_law_383 : decode mL_law.2.1 383 = .ok (.aload_n 0, 1) := by decide +kernel
theorem dL_law_384 : decode mL_law.2.1 384 = .ok (.iload_n 3, 1) := by decide +kernel
theorem dL_law_385 : decode mL_law.2.1 385 = .ok (.iconst 2, 1) := by decide +kernel
theorem dL_law_386 : decode mL_law.2.1 386 = .ok (.iadd, 1) := by decide +kernel
theorem dL_law_387 : decode mL_law.2.1 387 = .ok (.iaload, 1) := by decide +kernel
theorem dL_law_388 : decode mL_law.2.1 388 = .ok (.invokevirtual 55, 3) := by decide +kernel
theorem dL_law_391 : decode mL_law.2.1 391 = .ok (.if_icmp .eq 417, 3) := by decide +kernel
theorem dL_law_394 : decode mL_law.2.1 394 = .ok (.iconst 0, 1) := by decide +kernel
theorem dL_law_395 : decode mL_law.2.1 395 = .ok (.ireturn, 1) := by decide +kernel
theorem dL_law_396 : decode mL_law.2.1 396 = .ok (.aload_n 1, 1) := by decide +kernel
theorem dL_law_397 : decode mL_law.2.1 397 = .ok (.aload_n 0, 1) := by decide +kernel
theorem dL_law_398 : decode mL_law.2.1 398 = .ok (.iload_n 3, 1) := by decide +kernel
theorem dL_law_399 : decode mL_law.2.1 399 = .ok (.iconst 1, 1) := by decide +kernel
theorem dL_law_400 : decode mL_law.2.1 400 = .ok (.iadd, 1) := by decide +kernel
theorem dL_law_401 : decode mL_law.2.1 401 = .ok (.iaload, 1) := by decide +kernel
theorem dL_law_402 : decode mL_law.2.1 402 = .ok (.aload_n 0, 1) := by decide +kernel
theorem dL_law_403 : decode mL_law.2.1 403 = .ok (.iload_n 3, 1) := by decide +kernel
theorem dL_law_404 : decode mL_law.2.1 404 = .ok (.iconst 2, 1) := by decide +kernel
theorem dL_law_405 : decode mL_law.2.1 405 = .ok (.iadd, 1) := by decide +kernel
theorem dL_law_406 : decode mL_law.2.1 406 = .ok (.iaload, 1) := by decide +kernel
theorem dL_law_407 : decode mL_law.2.1 407 = .ok (.invokevirtual 56, 3) := by decide +kernel
theorem dL_law_410 : decode mL_law.2.1 410 = .ok (.aload_n 2, 1) := by decide +kernel
theorem dL_law_411 : decode mL_law.2.1 411 = .ok (.aload_n 0, 1) := by decide +kernel
theorem dL_law_412 : decode mL_law.2.1 412 = .ok (.iload_n 3, 1) := by decide +kernel
theorem dL_law_413 : decode mL_law.2.1 413 = .ok (.iconst 1, 1) := by decide +kernel
theorem dL_law_414 : decode mL_law.2.1 414 = .ok (.iadd, 1) := by decide +kernel
theorem dL_law_415 : decode mL_law.2.1 415 = .ok (.iaload, 1) := by decide +kernel
theorem dL_law_416 : decode mL_law.2.1 416 = .ok (.aload_n 0, 1) := by decide +kernel
theorem dL_law_417 : decode mL_law.2.1 417 = .ok (.iload_n 3, 1) := by decide +kernel
theorem dL_law_418 : decode mL_law.2.1 418 = .ok (.iconst 2, 1) := by decide +kernel
theorem dL_law_419 : decode mL_law.2.1 419 = .ok (.iadd, 1) := by decide +kernel
theorem dL_law_420 : decode mL_law.2.1 420 = .ok (.iaload, 1) := by decide +kernel
theorem dL_law_421 : decode mL_law.2.1 421 = .ok (.invokevirtual 59, 3) := by decide +kernel
theorem dL_law_424 : decode mL_law.2.1 424 = .ok (.if_icmp .eq 384, 3) := by decide +kernel
theorem dL_law_427 : decode mL_law.2.1 427 = .ok (.iconst 0, 1) := by decide +kernel
theorem dL_law_428 : decode mL_law.2.1 428 = .ok (.ireturn, 1) := by decide +kernel
theorem dL_law_429 : decode mL_law.2.1 429 = .ok (.aload_n 1, 1) := by decide +kernel
theorem dL_law_430 : decode mL_law.2.1 430 = .ok (.aload_n 0, 1) := by decide +kernel
theorem dL_law_431 : decode mL_law.2.1 431 = .ok (.iload_n 3, 1) := by decide +kernel
theorem dL_law_432 : decode mL_law.2.1 432 = .ok (.iconst 1, 1) := by decide +kernel
theorem dL_law_433 : decode mL_law.2.1 433 = .ok (.iadd, 1) := by decide +kernel
theorem dL_law_434 : decode mL_law.2.1 434 = .ok (.iaload, 1) := by decide +kernel
theorem dL_law_435 : decode mL_law.2.1 435 = .ok (.invokevirtual 60, 3) := by decide +kernel
theorem dL_law_438 : decode mL_law.2.1 438 = .ok (.aload_n 2, 1) := by decide +kernel
theorem dL_law_439 : decode mL_law.2.1 439 = .ok (.aload_n 0, 1) := by decide +kernel
theorem dL_law_440 : decode mL_law.2.1 440 = .ok (.iload_n 3, 1) := by decide +kernel
theorem dL_law_441 : decode mL_law.2.1 441 = .ok (.iconst 1, 1) := by decide +kernel
theorem dL_law_442 : decode mL_law.2.1 442 = .ok (.iadd, 1) := by decide +kernel
theorem dL_law_443 : decode mL_law.2.1 443 = .ok (.iaload, 1) := by decide +kernel
theorem dL_law_444 : decode mL_law.2.1 444 = .ok (.invokevirtual 63, 3) := by decide +kernel
theorem dL_law_447 : decode mL_law.2.1 447 = .ok (.if_icmp .eq 361, 3) := by decide +kernel
theorem dL_law_450 : decode mL_law.2.1 450 = .ok (.iconst 0, 1) := by decide +kernel
theorem dL_law_451 : decode mL_law.2.1 451 = .ok (.ireturn, 1) := by decide +kernel
theorem dL_law_452 : decode mL_law.2.1 452 = .ok (.aload_n 1, 1) := by decide +kernel
theorem dL_law_453 : decode mL_law.2.1 453 = .ok (.invokevirtual 64, 3) := by decide +kernel
theorem dL_law_456 : decode mL_law.2.1 456 = .ok (.aload_n 2, 1) := by decide +kernel
theorem dL_law_457 : decode mL_law.2.1 457 = .ok (.invokevirtual 67, 3) := by decide +kernel
theorem dL_law_460 : decode mL_law.2.1 460 = .ok (.if_icmp .eq 348, 3) := by decide +kernel
theorem dL_law_463 : decode mL_law.2.1 463 = .ok (.iconst 0, 1) := by decide +kernel
theorem dL_law_464 : decode mL_law.2.1 464 = .ok (.ireturn, 1) := by decide +kernel
theorem dL_law_465 : decode mL_law.2.1 465 = .ok (.aload_n 1, 1) := by decide +kernel
theorem dL_law_466 : decode mL_law.2.1 466 = .ok (.invokevirtual 68, 3) := by decide +kernel
theorem dL_law_469 : decode mL_law.2.1 469 = .ok (.aload_n 2, 1) := by decide +kernel
theorem dL_law_470 : decode mL_law.2.1 470 = .ok (.invokevirtual 71, 3) := by decide +kernel
theorem dL_law_473 : decode mL_law.2.1 473 = .ok (.if_icmp .eq 335, 3) := by decide +kernel
theorem dL_law_476 : decode mL_law.2.1 476 = .ok (.iconst 0, 1) := by decide +kernel
theorem dL_law_477 : decode mL_law.2.1 477 = .ok (.ireturn, 1) := by decide +kernel
theorem dL_law_478 : decode mL_law.2.1 478 = .ok (.aload_n 1, 1) := by decide +kernel
theorem dL_law_479 : decode mL_law.2.1 479 = .ok (.aload_n 0, 1) := by decide +kernel
theorem dL_law_480 : decode mL_law.2.1 480 = .ok (.iload_n 3, 1) := by decide +kernel
theorem dL_law_481 : decode mL_law.2.1 481 = .ok (.iconst 1, 1) := by decide +kernel
theorem dL_law_482 : decode mL_law.2.1 482 = .ok (.iadd, 1) := by decide +kernel
theorem dL_law_483 : decode mL_law.2.1 483 = .ok (.iaload, 1) := by decide +kernel
theorem dL_law_484 : decode mL_law.2.1 484 = .ok (.invokevirtual 72, 3) := by decide +kernel
theorem dL_law_487 : decode mL_law.2.1 487 = .ok (.aload_n 2, 1) := by decide +kernel
theorem dL_law_488 : decode mL_law.2.1 488 = .ok (.aload_n 0, 1) := by decide +kernel
theorem dL_law_489 : decode mL_law.2.1 489 = .ok (.iload_n 3, 1) := by decide +kernel
theorem dL_law_490 : decode mL_law.2.1 490 = .ok (.iconst 1, 1) := by decide +kernel
theorem dL_law_491 : decode mL_law.2.1 491 = .ok (.iadd, 1) := by decide +kernel
theorem dL_law_492 : decode mL_law.2.1 492 = .ok (.iaload, 1) := by decide +kernel
theorem dL_law_493 : decode mL_law.2.1 493 = .ok (.invokevirtual 75, 3) := by decide +kernel
theorem dL_law_496 : decode mL_law.2.1 496 = .ok (.if_icmp .eq 312, 3) := by decide +kernel
theorem dL_law_499 : decode mL_law.2.1 499 = .ok (.iconst 0, 1) := by decide +kernel
theorem dL_law_500 : decode mL_law.2.1 500 = .ok (.ireturn, 1) := by decide +kernel
theorem dL_law_501 : decode mL_law.2.1 501 = .ok (.aload_n 1, 1) := by decide +kernel
theorem dL_law_502 : decode mL_law.2.1 502 = .ok (.aload_n 0, 1) := by decide +kernel
theorem dL_law_503 : decode mL_law.2.1 503 = .ok (.iload_n 3, 1) := by decide +kernel
theorem dL_law_504 : decode mL_law.2.1 504 = .ok (.iconst 1, 1) := by decide +kernel
theorem dL_law_505 : decode mL_law.2.1 505 = .ok (.iadd, 1) := by decide +kernel
theorem dL_law_506 : decode mL_law.2.1 506 = .ok (.iaload, 1) := by decide +kernel
theorem dL_law_507 : decode mL_law.2.1 507 = .ok (.aload_n 0, 1) := by decide +kernel
theorem dL_law_508 : decode mL_law.2.1 508 = .ok (.iload_n 3, 1) := by decide +kernel
theorem dL_law_509 : decode mL_law.2.1 509 = .ok (.iconst 2, 1) := by decide +kernel
theorem dL_law_510 : decode mL_law.2.1 510 = .ok (.iadd, 1) := by decide +kernel
theorem dL_law_511 : decode mL_law.2.1 511 = .ok (.iaload, 1) := by decide +kernel
theorem dL_law_512 : decode mL_law.2.1 512 = .ok (.invokevirtual 76, 3) := by decide +kernel
theorem dL_law_515 : decode mL_law.2.1 515 = .ok (.aload_n 2, 1) := by decide +kernel
theorem dL_law_516 : decode mL_law.2.1 516 = .ok (.aload_n 0, 1) := by decide +kernel
theorem dL_law_517 : decode mL_law.2.1 517 = .ok (.iload_n 3, 1) := by decide +kernel
theorem dL_law_518 : decode mL_law.2.1 518 = .ok (.iconst 1, 1) := by decide +kernel
theorem dL_law_519 : decode mL_law.2.1 519 = .ok (.iadd, 1) := by decide +kernel
theorem dL_law_520 : decode mL_law.2.1 520 = .ok (.iaload, 1) := by decide +kernel
theorem dL_law_521 : decode mL_law.2.1 521 = .ok (.aload_n 0, 1) := by decide +kernel
theorem dL_law_522 : decode mL_law.2.1 522 = .ok (.iload_n 3, 1) := by decide +kernel
theorem dL_law_523 : decode mL_law.2.1 523 = .ok (.iconst 2, 1) := by decide +kernel
theorem dL_law_524 : decode mL_law.2.1 524 = .ok (.iadd, 1) := by decide +kernel
theorem dL_law_525 : decode mL_law.2.1 525 = .ok (.iaload, 1) := by decide +kernel
theorem dL_law_526 : decode mL_law.2.1 526 = .ok (.invokevirtual 79, 3) := by decide +kernel
theorem dL_law_529 : decode mL_law.2.1 529 = .ok (.if_icmp .eq 279, 3) := by decide +kernel
theorem dL_law_532 : decode mL_law.2.1 532 = .ok (.iconst 0, 1) := by decide +kernel
theorem dL_law_533 : decode mL_law.2.1 533 = .ok (.ireturn, 1) := by decide +kernel
theorem dL_law_534 : decode mL_law.2.1 534 = .ok (.aload_n 1, 1) := by decide +kernel
theorem dL_law_535 : decode mL_law.2.1 535 = .ok (.invokevirtual 80, 3) := by decide +kernel
theorem dL_law_538 : decode mL_law.2.1 538 = .ok (.aload_n 2, 1) := by decide +kernel
theorem dL_law_539 : decode mL_law.2.1 539 = .ok (.invokevirtual 83, 3) := by decide +kernel
theorem dL_law_542 : decode mL_law.2.1 542 = .ok (.if_icmp .eq 266, 3) := by decide +kernel
theorem dL_law_545 : decode mL_law.2.1 545 = .ok (.iconst 0, 1) := by decide +kernel
theorem dL_law_546 : decode mL_law.2.1 546 = .ok (.ireturn, 1) := by decide +kernel
theorem dL_law_547 : decode mL_law.2.1 547 = .ok (.aload_n 1, 1) := by decide +kernel
theorem dL_law_548 : decode mL_law.2.1 548 = .ok (.aload_n 0, 1) := by decide +kernel
theorem dL_law_549 : decode mL_law.2.1 549 = .ok (.iload_n 3, 1) := by decide +kernel
theorem dL_law_550 : decode mL_law.2.1 550 = .ok (.iconst 1, 1) := by decide +kernel
theorem dL_law_551 : decode mL_law.2.1 551 = .ok (.iadd, 1) := by decide +kernel
theorem dL_law_552 : decode mL_law.2.1 552 = .ok (.iaload, 1) := by decide +kernel
theorem dL_law_553 : decode mL_law.2.1 553 = .ok (.invokevirtual 84, 3) := by decide +kernel
theorem dL_law_556 : decode mL_law.2.1 556 = .ok (.aload_n 2, 1) := by decide +kernel
theorem dL_law_557 : decode mL_law.2.1 557 = .ok (.aload_n 0, 1) := by decide +kernel
theorem dL_law_558 : decode mL_law.2.1 558 = .ok (.iload_n 3, 1) := by decide +kernel
theorem dL_law_559 : decode mL_law.2.1 559 = .ok (.iconst 1, 1) := by decide +kernel
theorem dL_law_560 : decode mL_law.2.1 560 = .ok (.iadd, 1) := by decide +kernel
theorem dL_law_561 : decode mL_law.2.1 561 = .ok (.iaload, 1) := by decide +kernel
theorem dL_law_562 : decode mL_law.2.1 562 = .ok (.invokevirtual 87, 3) := by decide +kernel
theorem dL_law_565 : decode mL_law.2.1 565 = .ok (.if_icmp .eq 243, 3) := by decide +kernel
theorem dL_law_568 : decode mL_law.2.1 568 = .ok (.iconst 0, 1) := by decide +kernel
theorem dL_law_569 : decode mL_law.2.1 569 = .ok (.ireturn, 1) := by decide +kernel
theorem dL_law_570 : decode mL_law.2.1 570 = .ok (.aload_n 1, 1) := by decide +kernel
theorem dL_law_571 : decode mL_law.2.1 571 = .ok (.invokevirtual 88, 3) := by decide +kernel
theorem dL_law_574 : decode mL_law.2.1 574 = .ok (.aload_n 2, 1) := by decide +kernel
theorem dL_law_575 : decode mL_law.2.1 575 = .ok (.invokevirtual 91, 3) := by decide +kernel
theorem dL_law_578 : decode mL_law.2.1 578 = .ok (.if_icmp .eq 230, 3) := by decide +kernel
theorem dL_law_581 : decode mL_law.2.1 581 = .ok (.iconst 0, 1) := by decide +kernel
theorem dL_law_582 : decode mL_law.2.1 582 = .ok (.ireturn, 1) := by decide +kernel
theorem dL_law_583 : decode mL_law.2.1 583 = .ok (.aload_n 1, 1) := by decide +kernel
theorem dL_law_584 : decode mL_law.2.1 584 = .ok (.aload_n 0, 1) := by decide +kernel
theorem dL_law_585 : decode mL_law.2.1 585 = .ok (.iload_n 3, 1) := by decide +kernel
theorem dL_law_586 : decode mL_law.2.1 586 = .ok (.iconst 1, 1) := by decide +kernel
theorem dL_law_587 : decode mL_law.2.1 587 = .ok (.iadd, 1) := by decide +kernel
theorem dL_law_588 : decode mL_law.2.1 588 = .ok (.iaload, 1) := by decide +kernel
theorem dL_law_589 : decode mL_law.2.1 589 = .ok (.aload_n 0, 1) := by decide +kernel
theorem dL_law_590 : decode mL_law.2.1 590 = .ok (.iload_n 3, 1) := by decide +kernel
theorem dL_law_591 : decode mL_law.2.1 591 = .ok (.iconst 2, 1) := by decide +kernel
theorem dL_law_592 : decode mL_law.2.1 592 = .ok (.iadd, 1) := by decide +kernel
theorem dL_law_593 : decode mL_law.2.1 593 = .ok (.iaload, 1) := by decide +kernel
theorem dL_law_594 : decode mL_law.2.1 594 = .ok (.invokevirtual 92, 3) := by decide +kernel
theorem dL_law_597 : decode mL_law.2.1 597 = .ok (.aload_n 2, 1) := by decide +kernel
theorem dL_law_598 : decode mL_law.2.1 598 = .ok (.aload_n 0, 1) := by decide +kernel
theorem dL_law_599 : decode mL_law.2.1 599 = .ok (.iload_n 3, 1) := by decide +kernel
theorem dL_law_600 : decode mL_law.2.1 600 = .ok (.iconst 1, 1) := by decide +kernel
theorem dL_law_601 : decode mL_law.2.1 601 = .ok (.iadd, 1) := by decide +kernel
theorem dL_law_602 : decode mL_law.2.1 602 = .ok (.iaload, 1) := by decide +kernel
theorem dL_law_603 : decode mL_law.2.1 603 = .ok (.aload_n 0, 1) := by decide +kernel
theorem dL_law_604 : decode mL_law.2.1 604 = .ok (.iload_n 3, 1) := by decide +kernel
theorem dL_law_605 : decode mL_law.2.1 605 = .ok (.iconst 2, 1) := by decide +kernel
theorem dL_law_606 : decode mL_law.2.1 606 = .ok (.iadd, 1) := by decide +kernel
theorem dL_law_607 : decode mL_law.2.1 607 = .ok (.iaload, 1) := by decide +kernel
theorem dL_law_608 : decode mL_law.2.1 608 = .ok (.invokevirtual 95, 3) := by decide +kernel
theorem dL_law_611 : decode mL_law.2.1 611 = .ok (.if_icmp .eq 197, 3) := by decide +kernel
theorem dL_law_614 : decode mL_law.2.1 614 = .ok (.iconst 0, 1) := by decide +kernel
theorem dL_law_615 : decode mL_law.2.1 615 = .ok (.ireturn, 1) := by decide +kernel
theorem dL_law_616 : decode mL_law.2.1 616 = .ok (.aload_n 1, 1) := by decide +kernel
theorem dL_law_617 : decode mL_law.2.1 617 = .ok (.aload_n 0, 1) := by decide +kernel
theorem dL_law_618 : decode mL_law.2.1 618 = .ok (.iload_n 3, 1) := by decide +kernel
theorem dL_law_619 : decode mL_law.2.1 619 = .ok (.iconst 1, 1) := by decide +kernel
theorem dL_law_620 : decode mL_law.2.1 620 = .ok (.iadd, 1) := by decide +kernel
theorem dL_law_621 : decode mL_law.2.1 621 = .ok (.iaload, 1) := by decide +kernel
theorem dL_law_622 : decode mL_law.2.1 622 = .ok (.aload_n 0, 1) := by decide +kernel
theorem dL_law_623 : decode mL_law.2.1 623 = .ok (.iload_n 3, 1) := by decide +kernel
theorem dL_law_624 : decode mL_law.2.1 624 = .ok (.iconst 2, 1) := by decide +kernel
theorem dL_law_625 : decode mL_law.2.1 625 = .ok (.iadd, 1) := by decide +kernel
theorem dL_law_626 : decode mL_law.2.1 626 = .ok (.iaload, 1) := by decide +kernel
theorem dL_law_627 : decode mL_law.2.1 627 = .ok (.invokevirtual 96, 3) := by decide +kernel
theorem dL_law_630 : decode mL_law.2.1 630 = .ok (.aload_n 2, 1) := by decide +kernel
theorem dL_law_631 : decode mL_law.2.1 631 = .ok (.aload_n 0, 1) := by decide +kernel
theorem dL_law_632 : decode mL_law.2.1 632 = .ok (.iload_n 3, 1) := by decide +kernel
theorem dL_law_633 : decode mL_law.2.1 633 = .ok (.iconst 1, 1) := by decide +kernel
theorem dL_law_634 : decode mL_law.2.1 634 = .ok (.iadd, 1) := by decide +kernel
theorem dL_law_635 : decode mL_law.2.1 635 = .ok (.iaload, 1) := by decide +kernel
theorem dL_law_636 : decode mL_law.2.1 636 = .ok (.aload_n 0, 1) := by decide +kernel
theorem dL_law_637 : decode mL_law.2.1 637 = .ok (.iload_n 3, 1) := by decide +kernel
theorem dL_law_638 : decode mL_law.2.1 638 = .ok (.iconst 2, 1) := by decide +kernel
theorem dL_law_639 : decode mL_law.2.1 639 = .ok (.iadd, 1) := by decide +kernel
theorem dL_law_640 : decode mL_law.2.1 640 = .ok (.iaload, 1) := by decide +kernel
theorem dL_law_641 : decode mL_law.2.1 641 = .ok (.invokevirtual 99, 3) := by decide +kernel
theorem dL_law_644 : decode mL_law.2.1 644 = .ok (.if_icmp .eq 164, 3) := by decide +kernel
theorem dL_law_647 : decode mL_law.2.1 647 = .ok (.iconst 0, 1) := by decide +kernel
theorem dL_law_648 : decode mL_law.2.1 648 = .ok (.ireturn, 1) := by decide +kernel
theorem dL_law_649 : decode mL_law.2.1 649 = .ok (.aload_n 1, 1) := by decide +kernel
theorem dL_law_650 : decode mL_law.2.1 650 = .ok (.aload_n 0, 1) := by decide +kernel
theorem dL_law_651 : decode mL_law.2.1 651 = .ok (.iload_n 3, 1) := by decide +kernel
theorem dL_law_652 : decode mL_law.2.1 652 = .ok (.iconst 1, 1) := by decide +kernel
theorem dL_law_653 : decode mL_law.2.1 653 = .ok (.iadd, 1) := by decide +kernel
theorem dL_law_654 : decode mL_law.2.1 654 = .ok (.iaload, 1) := by decide +kernel
theorem dL_law_655 : decode mL_law.2.1 655 = .ok (.aload_n 0, 1) := by decide +kernel
theorem dL_law_656 : decode mL_law.2.1 656 = .ok (.iload_n 3, 1) := by decide +kernel
theorem dL_law_657 : decode mL_law.2.1 657 = .ok (.iconst 2, 1) := by decide +kernel
theorem dL_law_658 : decode mL_law.2.1 658 = .ok (.iadd, 1) := by decide +kernel
theorem dL_law_659 : decode mL_law.2.1 659 = .ok (.iaload, 1) := by decide +kernel
theorem dL_law_660 : decode mL_law.2.1 660 = .ok (.aload_n 0, 1) := by decide +kernel
theorem dL_law_661 : decode mL_law.2.1 661 = .ok (.iload_n 3, 1) := by decide +kernel
theorem dL_law_662 : decode mL_law.2.1 662 = .ok (.iconst 3, 1) := by decide +kernel
theorem dL_law_663 : decode mL_law.2.1 663 = .ok (.iadd, 1) := by decide +kernel
theorem dL_law_664 : decode mL_law.2.1 664 = .ok (.iaload, 1) := by decide +kernel
theorem dL_law_665 : decode mL_law.2.1 665 = .ok (.invokevirtual 100, 3) := by decide +kernel
theorem dL_law_668 : decode mL_law.2.1 668 = .ok (.aload_n 2, 1) := by decide +kernel
theorem dL_law_669 : decode mL_law.2.1 669 = .ok (.aload_n 0, 1) := by decide +kernel
theorem dL_law_670 : decode mL_law.2.1 670 = .ok (.iload_n 3, 1) := by decide +kernel
theorem dL_law_671 : decode mL_law.2.1 671 = .ok (.iconst 1, 1) := by decide +kernel
theorem dL_law_672 : decode mL_law.2.1 672 = .ok (.iadd, 1) := by decide +kernel
theorem dL_law_673 : decode mL_law.2.1 673 = .ok (.iaload, 1) := by decide +kernel
theorem dL_law_674 : decode mL_law.2.1 674 = .ok (.aload_n 0, 1) := by decide +kernel
theorem dL_law_675 : decode mL_law.2.1 675 = .ok (.iload_n 3, 1) := by decide +kernel
theorem dL_law_676 : decode mL_law.2.1 676 = .ok (.iconst 2, 1) := by decide +kernel
theorem dL_law_677 : decode mL_law.2.1 677 = .ok (.iadd, 1) := by decide +kernel
theorem dL_law_678 : decode mL_law.2.1 678 = .ok (.iaload, 1) := by decide +kernel
theorem dL_law_679 : decode mL_law.2.1 679 = .ok (.aload_n 0, 1) := by decide +kernel
theorem dL_law_680 : decode mL_law.2.1 680 = .ok (.iload_n 3, 1) := by decide +kernel
theorem dL_law_681 : decode mL_law.2.1 681 = .ok (.iconst 3, 1) := by decide +kernel
theorem dL_law_682 : decode mL_law.2.1 682 = .ok (.iadd, 1) := by decide +kernel
theorem dL_law_683 : decode mL_law.2.1 683 = .ok (.iaload, 1) := by decide +kernel
theorem dL_law_684 : decode mL_law.2.1 684 = .ok (.invokevirtual 104, 3) := by decide +kernel
theorem dL_law_687 : decode mL_law.2.1 687 = .ok (.if_icmp .eq 121, 3) := by decide +kernel
theorem dL_law_690 : decode mL_law.2.1 690 = .ok (.iconst 0, 1) := by decide +kernel
theorem dL_law_691 : decode mL_law.2.1 691 = .ok (.ireturn, 1) := by decide +kernel
theorem dL_law_692 : decode mL_law.2.1 692 = .ok (.aload_n 1, 1) := by decide +kernel
theorem dL_law_693 : decode mL_law.2.1 693 = .ok (.aload_n 0, 1) := by decide +kernel
theorem dL_law_694 : decode mL_law.2.1 694 = .ok (.iload_n 3, 1) := by decide +kernel
theorem dL_law_695 : decode mL_law.2.1 695 = .ok (.iconst 1, 1) := by decide +kernel
theorem dL_law_696 : decode mL_law.2.1 696 = .ok (.iadd, 1) := by decide +kernel
theorem dL_law_697 : decode mL_law.2.1 697 = .ok (.iaload, 1) := by decide +kernel
theorem dL_law_698 : decode mL_law.2.1 698 = .ok (.aload_n 0, 1) := by decide +kernel
theorem dL_law_699 : decode mL_law.2.1 699 = .ok (.iload_n 3, 1) := by decide +kernel
theorem dL_law_700 : decode mL_law.2.1 700 = .ok (.iconst 2, 1) := by decide +kernel
theorem dL_law_701 : decode mL_law.2.1 701 = .ok (.iadd, 1) := by decide +kernel
theorem dL_law_702 : decode mL_law.2.1 702 = .ok (.iaload, 1) := by decide +kernel
theorem dL_law_703 : decode mL_law.2.1 703 = .ok (.invokevirtual 105, 3) := by decide +kernel
theorem dL_law_706 : decode mL_law.2.1 706 = .ok (.aload_n 2, 1) := by decide +kernel
theorem dL_law_707 : decode mL_law.2.1 707 = .ok (.aload_n 0, 1) := by decide +kernel
theorem dL_law_708 : decode mL_law.2.1 708 = .ok (.iload_n 3, 1) := by decide +kernel
theorem dL_law_709 : decode mL_law.2.1 709 = .ok (.iconst 1, 1) := by decide +kernel
theorem dL_law_710 : decode mL_law.2.1 710 = .ok (.iadd, 1) := by decide +kernel
theorem dL_law_711 : decode mL_law.2.1 711 = .ok (.iaload, 1) := by decide +kernel
theorem dL_law_712 : decode mL_law.2.1 712 = .ok (.aload_n 0, 1) := by decide +kernel
theorem dL_law_713 : decode mL_law.2.1 713 = .ok (.iload_n 3, 1) := by decide +kernel
theorem dL_law_714 : decode mL_law.2.1 714 = .ok (.iconst 2, 1) := by decide +kernel
theorem dL_law_715 : decode mL_law.2.1 715 = .ok (.iadd, 1) := by decide +kernel
theorem dL_law_716 : decode mL_law.2.1 716 = .ok (.iaload, 1) := by decide +kernel
theorem dL_law_717 : decode mL_law.2.1 717 = .ok (.invokevirtual 108, 3) := by decide +kernel
theorem dL_law_720 : decode mL_law.2.1 720 = .ok (.if_icmp .eq 88, 3) := by decide +kernel
theorem dL_law_723 : decode mL_law.2.1 723 = .ok (.iconst 0, 1) := by decide +kernel
theorem dL_law_724 : decode mL_law.2.1 724 = .ok (.ireturn, 1) := by decide +kernel
theorem dL_law_725 : decode mL_law.2.1 725 = .ok (.aload_n 1, 1) := by decide +kernel
theorem dL_law_726 : decode mL_law.2.1 726 = .ok (.aload_n 0, 1) := by decide +kernel
theorem dL_law_727 : decode mL_law.2.1 727 = .ok (.iload_n 3, 1) := by decide +kernel
theorem dL_law_728 : decode mL_law.2.1 728 = .ok (.iconst 1, 1) := by decide +kernel
theorem dL_law_729 : decode mL_law.2.1 729 = .ok (.iadd, 1) := by decide +kernel
theorem dL_law_730 : decode mL_law.2.1 730 = .ok (.iaload, 1) := by decide +kernel
theorem dL_law_731 : decode mL_law.2.1 731 = .ok (.invokevirtual 109, 3) := by decide +kernel
theorem dL_law_734 : decode mL_law.2.1 734 = .ok (.aload_n 2, 1) := by decide +kernel
theorem dL_law_735 : decode mL_law.2.1 735 = .ok (.aload_n 0, 1) := by decide +kernel
theorem dL_law_736 : decode mL_law.2.1 736 = .ok (.iload_n 3, 1) := by decide +kernel
theorem dL_law_737 : decode mL_law.2.1 737 = .ok (.iconst 1, 1) := by decide +kernel
theorem dL_law_738 : decode mL_law.2.1 738 = .ok (.iadd, 1) := by decide +kernel
theorem dL_law_739 : decode mL_law.2.1 739 = .ok (.iaload, 1) := by decide +kernel
theorem dL_law_740 : decode mL_law.2.1 740 = .ok (.invokevirtual 112, 3) := by decide +kernel
theorem dL_law_743 : decode mL_law.2.1 743 = .ok (.if_icmp .eq 65, 3) := by decide +kernel
theorem dL_law_746 : decode mL_law.2.1 746 = .ok (.iconst 0, 1) := by decide +kernel
theorem dL_law_747 : decode mL_law.2.1 747 = .ok (.ireturn, 1) := by decide +kernel
theorem dL_law_748 : decode mL_law.2.1 748 = .ok (.aload_n 1, 1) := by decide +kernel
theorem dL_law_749 : decode mL_law.2.1 749 = .ok (.aload_n 0, 1) := by decide +kernel
theorem dL_law_750 : decode mL_law.2.1 750 = .ok (.iload_n 3, 1) := by decide +kernel
theorem dL_law_751 : decode mL_law.2.1 751 = .ok (.iconst 1, 1) := by decide +kernel
theorem dL_law_752 : decode mL_law.2.1 752 = .ok (.iadd, 1) := by decide +kernel
theorem dL_law_753 : decode mL_law.2.1 753 = .ok (.iaload, 1) := by decide +kernel
theorem dL_law_754 : decode mL_law.2.1 754 = .ok (.invokevirtual 113, 3) := by decide +kernel
theorem dL_law_757 : decode mL_law.2.1 757 = .ok (.aload_n 2, 1) := by decide +kernel
theorem dL_law_758 : decode mL_law.2.1 758 = .ok (.aload_n 0, 1) := by decide +kernel
theorem dL_law_759 : decode mL_law.2.1 759 = .ok (.iload_n 3, 1) := by decide +kernel
theorem dL_law_760 : decode mL_law.2.1 760 = .ok (.iconst 1, 1) := by decide +kernel
theorem dL_law_761 : decode mL_law.2.1 761 = .ok (.iadd, 1) := by decide +kernel
theorem dL_law_762 : decode mL_law.2.1 762 = .ok (.iaload, 1) := by decide +kernel
theorem dL_law_763 : decode mL_law.2.1 763 = .ok (.invokevirtual 116, 3) := by decide +kernel
theorem dL_law_766 : decode mL_law.2.1 766 = .ok (.if_icmp .eq 42, 3) := by decide +kernel
theorem dL_law_769 : decode mL_law.2.1 769 = .ok (.iconst 0, 1) := by decide +kernel
theorem dL_law_770 : decode mL_law.2.1 770 = .ok (.ireturn, 1) := by decide +kernel
theorem dL_law_771 : decode mL_law.2.1 771 = .ok (.aload_n 1, 1) := by decide +kernel
theorem dL_law_772 : decode mL_law.2.1 772 = .ok (.aload_n 0, 1) := by decide +kernel
theorem dL_law_773 : decode mL_law.2.1 773 = .ok (.iload_n 3, 1) := by decide +kernel
theorem dL_law_774 : decode mL_law.2.1 774 = .ok (.iconst 1, 1) := by decide +kernel
theorem dL_law_775 : decode mL_law.2.1 775 = .ok (.iadd, 1) := by decide +kernel
theorem dL_law_776 : decode mL_law.2.1 776 = .ok (.iaload, 1) := by decide +kernel
theorem dL_law_777 : decode mL_law.2.1 777 = .ok (.invokevirtual 117, 3) := by decide +kernel
theorem dL_law_780 : decode mL_law.2.1 780 = .ok (.aload_n 2, 1) := by decide +kernel
theorem dL_law_781 : decode mL_law.2.1 781 = .ok (.aload_n 0, 1) := by decide +kernel
theorem dL_law_782 : decode mL_law.2.1 782 = .ok (.iload_n 3, 1) := by decide +kernel
theorem dL_law_783 : decode mL_law.2.1 783 = .ok (.iconst 1, 1) := by decide +kernel
theorem dL_law_784 : decode mL_law.2.1 784 = .ok (.iadd, 1) := by decide +kernel
theorem dL_law_785 : decode mL_law.2.1 785 = .ok (.iaload, 1) := by decide +kernel
theorem dL_law_786 : decode mL_law.2.1 786 = .ok (.invokevirtual 120, 3) := by decide +kernel
theorem dL_law_789 : decode mL_law.2.1 789 = .ok (.if_icmp .eq 19, 3) := by decide +kernel
theorem dL_law_792 : decode mL_law.2.1 792 = .ok (.iconst 0, 1) := by decide +kernel
theorem dL_law_793 : decode mL_law.2.1 793 = .ok (.ireturn, 1) := by decide +kernel
theorem dL_law_794 : decode mL_law.2.1 794 = .ok (.aload_n 1, 1) := by decide +kernel
theorem dL_law_795 : decode mL_law.2.1 795 = .ok (.invokevirtual 121, 3) := by decide +kernel
theorem dL_law_798 : decode mL_law.2.1 798 = .ok (.aload_n 2, 1) := by decide +kernel
theorem dL_law_799 : decode mL_law.2.1 799 = .ok (.invokevirtual 125, 3) := by decide +kernel
theorem dL_law_802 : decode mL_law.2.1 802 = .ok (.lcmp, 1) := by decide +kernel
theorem dL_law_803 : decode mL_law.2.1 803 = .ok (.ifCond .eq 5, 3) := by decide +kernel
theorem dL_law_806 : decode mL_law.2.1 806 = .ok (.iconst 0, 1) := by decide +kernel
theorem dL_law_807 : decode mL_law.2.1 807 = .ok (.ireturn, 1) := by decide +kernel
theorem dL_law_808 : decode mL_law.2.1 808 = .ok (.iinc 3 4, 3) := by decide +kernel
theorem dL_law_811 : decode mL_law.2.1 811 = .ok (.goto (-793), 3) := by decide +kernel
theorem dL_law_814 : decode mL_law.2.1 814 = .ok (.iconst 1, 1) := by decide +kernel
theorem dL_law_815 : decode mL_law.2.1 815 = .ok (.ireturn, 1) := by decide +kernel
