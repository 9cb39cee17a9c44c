theorem dJ13_bitCount_95d88_0 : decode cJ13_bitCount_95d88 0 = .ok (.lload_n 0, 1) := by decide +kernel
theorem dJ13_bitCount_95d88_1 : decode cJ13_bitCount_95d88 1 = .ok (.lload_n 0, 1) := by decide +kernel
theorem dJ13_bitCount_95d88_10 : decode cJ13_bitCount_95d88 10 = .ok (.lload_n 0, 1) := by decide +kernel
theorem dJ13_bitCount_95d88_11 : decode cJ13_bitCount_95d88 11 = .ok (.ldc2_w 316, 3) := by decide +kernel
theorem dJ13_bitCount_95d88_14 : decode cJ13_bitCount_95d88 14 = .ok (.land, 1) := by decide +kernel
theorem dJ13_bitCount_95d88_15 : decode cJ13_bitCount_95d88 15 = .ok (.lload_n 0, 1) := by decide +kernel
theorem dJ13_bitCount_95d88_16 : decode cJ13_bitCount_95d88 16 = .ok (.iconst 2, 1) := by decide +kernel
theorem dJ13_bitCount_95d88_17 : decode cJ13_bitCount_95d88 17 = .ok (.lushr, 1) := by decide +kernel
theorem dJ13_bitCount_95d88_18 : decode cJ13_bitCount_95d88 18 = .ok (.ldc2_w 316, 3) := by decide +kernel
theorem dJ13_bitCount_95d88_2 : decode cJ13_bitCount_95d88 2 = .ok (.iconst 1, 1) := by decide +kernel
theorem dJ13_bitCount_95d88_21 : decode cJ13_bitCount_95d88 21 = .ok (.land, 1) := by decide +kernel
theorem dJ13_bitCount_95d88_22 : decode cJ13_bitCount_95d88 22 = .ok (.ladd, 1) := by decide +kernel
theorem dJ13_bitCount_95d88_23 : decode cJ13_bitCount_95d88 23 = .ok (.lstore_n 0, 1) := by decide +kernel
theorem dJ13_bitCount_95d88_24 : decode cJ13_bitCount_95d88 24 = .ok (.lload_n 0, 1) := by decide +kernel
theorem dJ13_bitCount_95d88_25 : decode cJ13_bitCount_95d88 25 = .ok (.lload_n 0, 1) := by decide +kernel
theorem dJ13_bitCount_95d88_26 : decode cJ13_bitCount_95d88 26 = .ok (.iconst 4, 1) := by decide +kernel
theorem dJ13_bitCount_95d88_27 : decode cJ13_bitCount_95d88 27 = .ok (.lushr, 1) := by decide +kernel
theorem dJ13_bitCount_95d88_28 : decode cJ13_bitCount_95d88 28 = .ok (.ladd, 1) := by decide +kernel
theorem dJ13_bitCount_95d88_29 : decode cJ13_bitCount_95d88 29 = .ok (.ldc2_w 318, 3) := by decide +kernel
theorem dJ13_bitCount_95d88_3 : decode cJ13_bitCount_95d88 3 = .ok (.lushr, 1) := by decide +kernel
theorem dJ13_bitCount_95d88_32 : decode cJ13_bitCount_95d88 32 = .ok (.land, 1) := by decide +kernel
theorem dJ13_bitCount_95d88_33 : decode cJ13_bitCount_95d88 33 = .ok (.lstore_n 0, 1) := by decide +kernel
theorem dJ13_bitCount_95d88_34 : decode cJ13_bitCount_95d88 34 = .ok (.lload_n 0, 1) := by decide +kernel
theorem dJ13_bitCount_95d88_35 : decode cJ13_bitCount_95d88 35 = .ok (.lload_n 0, 1) := by decide +kernel
theorem dJ13_bitCount_95d88_36 : decode cJ13_bitCount_95d88 36 = .ok (.bipush 8, 2) := by decide +kernel
theorem dJ13_bitCount_95d88_38 : decode cJ13_bitCount_95d88 38 = .ok (.lushr, 1) := by decide +kernel
theorem dJ13_bitCount_95d88_39 : decode cJ13_bitCount_95d88 39 = .ok (.ladd, 1) := by decide +kernel
theorem dJ13_bitCount_95d88_4 : decode cJ13_bitCount_95d88 4 = .ok (.ldc2_w 314, 3) := by decide +kernel
theorem dJ13_bitCount_95d88_40 : decode cJ13_bitCount_95d88 40 = .ok (.lstore_n 0, 1) := by decide +kernel
theorem dJ13_bitCount_95d88_41 : decode cJ13_bitCount_95d88 41 = .ok (.lload_n 0, 1) := by decide +kernel
theorem dJ13_bitCount_95d88_42 : decode cJ13_bitCount_95d88 42 = .ok (.lload_n 0, 1) := by decide +kernel
theorem dJ13_bitCount_95d88_43 : decode cJ13_bitCount_95d88 43 = .ok (.bipush 16, 2) := by decide +kernel
theorem dJ13_bitCount_95d88_45 : decode cJ13_bitCount_95d88 45 = .ok (.lushr, 1) := by decide +kernel
theorem dJ13_bitCount_95d88_46 : decode cJ13_bitCount_95d88 46 = .ok (.ladd, 1) := by decide +kernel
theorem dJ13_bitCount_95d88_47 : decode cJ13_bitCount_95d88 47 = .ok (.lstore_n 0, 1) := by decide +kernel
theorem dJ13_bitCount_95d88_48 : decode cJ13_bitCount_95d88 48 = .ok (.lload_n 0, 1) := by decide +kernel
theorem dJ13_bitCount_95d88_49 : decode cJ13_bitCount_95d88 49 = .ok (.lload_n 0, 1) := by decide +kernel
theorem dJ13_bitCount_95d88_50 : decode cJ13_bitCount_95d88 50 = .ok (.bipush 32, 2) := by decide +kernel
theorem dJ13_bitCount_95d88_52 : decode cJ13_bitCount_95d88 52 = .ok (.lushr, 1) := by decide +kernel
theorem dJ13_bitCount_95d88_53 : decode cJ13_bitCount_95d88 53 = .ok (.ladd, 1) := by decide +kernel
theorem dJ13_bitCount_95d88_54 : decode cJ13_bitCount_95d88 54 = .ok (.lstore_n 0, 1) := by decide +kernel
theorem dJ13_bitCount_95d88_55 : decode cJ13_bitCount_95d88 55 = .ok (.lload_n 0, 1) := by decide +kernel
theorem dJ13_bitCount_95d88_56 : decode cJ13_bitCount_95d88 56 = .ok (.l2i, 1) := by decide +kernel
theorem dJ13_bitCount_95d88_57 : decode cJ13_bitCount_95d88 57 = .ok (.bipush 127, 2) := by decide +kernel
theorem dJ13_bitCount_95d88_59 : decode cJ13_bitCount_95d88 59 = .ok (.iand, 1) := by decide +kernel
theorem dJ13_bitCount_95d88_60 : decode cJ13_bitCount_95d88 60 = .ok (.ireturn, 1) := by decide +kernel
theorem dJ13_bitCount_95d88_7 : decode cJ13_bitCount_95d88 7 = .ok (.land, 1) := by decide +kernel
theorem dJ13_bitCount_95d88_8 : decode cJ13_bitCount_95d88 8 = .ok (.lsub, 1) := by decide +kernel
theorem dJ13_bitCount_95d88_9 : decode cJ13_bitCount_95d88 9 = .ok (.lstore_n 0, 1) := by decide +kernel
theorem dL_law_0 : decode cL_law 0 = .ok (.new 7, 3) := by decide +kernel
theorem dL_law_11 : decode cL_law 11 = .ok (.dup, 1) := by decide +kernel
theorem dL_law_12 : decode cL_law 12 = .ok (.invokespecial 12, 3) := by decide +kernel
theorem dL_law_132 : decode cL_law 132 = .ok (.aload_n 1, 1) := by decide +kernel
theorem dL_law_133 : decode cL_law 133 = .ok (.aload_n 0, 1) := by decide +kernel
theorem dL_law_134 : decode cL_law 134 = .ok (.iload_n 3, 1) := by decide +kernel
theorem dL_law_135 : decode cL_law 135 = .ok (.iconst 1, 1) := by decide +kernel
theorem dL_law_136 : decode cL_law 136 = .ok (.iadd, 1) := by decide +kernel
theorem dL_law_137 : decode cL_law 137 = .ok (.iaload, 1) := by decide +kernel
theorem dL_law_138 : decode cL_law 138 = .ok (.aload_n 0, 1) := by decide +kernel
theorem dL_law_139 : decode cL_law 139 = .ok (.iload_n 3, 1) := by decide +kernel
theorem dL_law_140 : decode cL_law 140 = .ok (.iconst 2, 1) := by decide +kernel
theorem dL_law_141 : decode cL_law 141 = .ok (.iadd, 1) := by decide +kernel
theorem dL_law_142 : decode cL_law 142 = .ok (.iaload, 1) := by decide +kernel
theorem dL_law_143 : decode cL_law 143 = .ok (.aload_n 0, 1) := by decide +kernel
theorem dL_law_144 : decode cL_law 144 = .ok (.iload_n 3, 1) := by decide +kernel
theorem dL_law_145 : decode cL_law 145 = .ok (.iconst 3, 1) := by decide +kernel
theorem dL_law_146 : decode cL_law 146 = .ok (.iadd, 1) := by decide +kernel
theorem dL_law_147 : decode cL_law 147 = .ok (.iaload, 1) := by decide +kernel
theorem dL_law_148 : decode cL_law 148 = .ok (.aload_n 0, 1) := by decide +kernel
theorem dL_law_149 : decode cL_law 149 = .ok (.iload_n 3, 1) := by decide +kernel
theorem dL_law_15 : decode cL_law 15 = .ok (.astore_n 2, 1) := by decide +kernel
theorem dL_law_150 : decode cL_law 150 = .ok (.iconst 4, 1) := by decide +kernel
theorem dL_law_151 : decode cL_law 151 = .ok (.iadd, 1) := by decide +kernel
theorem dL_law_152 : decode cL_law 152 = .ok (.iaload, 1) := by decide +kernel
theorem dL_law_153 : decode cL_law 153 = .ok (.aload_n 0, 1) := by decide +kernel
theorem dL_law_154 : decode cL_law 154 = .ok (.iload_n 3, 1) := by decide +kernel
theorem dL_law_155 : decode cL_law 155 = .ok (.iconst 5, 1) := by decide +kernel
theorem dL_law_156 : decode cL_law 156 = .ok (.iadd, 1) := by decide +kernel
theorem dL_law_157 : decode cL_law 157 = .ok (.iaload, 1) := by decide +kernel
theorem dL_law_158 : decode cL_law 158 = .ok (.invokevirtual 13, 3) := by decide +kernel
theorem dL_law_16 : decode cL_law 16 = .ok (.iconst 0, 1) := by decide +kernel
theorem dL_law_161 : decode cL_law 161 = .ok (.aload_n 2, 1) := by decide +kernel
theorem dL_law_162 : decode cL_law 162 = .ok (.aload_n 0, 1) := by decide +kernel
theorem dL_law_163 : decode cL_law 163 = .ok (.iload_n 3, 1) := by decide +kernel
theorem dL_law_164 : decode cL_law 164 = .ok (.iconst 1, 1) := by decide +kernel
theorem dL_law_165 : decode cL_law 165 = .ok (.iadd, 1) := by decide +kernel
theorem dL_law_166 : decode cL_law 166 = .ok (.iaload, 1) := by decide +kernel
theorem dL_law_167 : decode cL_law 167 = .ok (.aload_n 0, 1) := by decide +kernel
theorem dL_law_168 : decode cL_law 168 = .ok (.iload_n 3, 1) := by decide +kernel
theorem dL_law_169 : decode cL_law 169 = .ok (.iconst 2, 1) := by decide +kernel
theorem dL_law_17 : decode cL_law 17 = .ok (.istore_n 3, 1) := by decide +kernel
theorem dL_law_170 : decode cL_law 170 = .ok (.iadd, 1) := by decide +kernel
theorem dL_law_171 : decode cL_law 171 = .ok (.iaload, 1) := by decide +kernel
theorem dL_law_172 : decode cL_law 172 = .ok (.aload_n 0, 1) := by decide +kernel
theorem dL_law_173 : decode cL_law 173 = .ok (.iload_n 3, 1) := by decide +kernel
theorem dL_law_174 : decode cL_law 174 = .ok (.iconst 3, 1) := by decide +kernel
theorem dL_law_175 : decode cL_law 175 = .ok (.iadd, 1) := by decide +kernel
theorem dL_law_176 : decode cL_law 176 = .ok (.iaload, 1) := by decide +kernel
theorem dL_law_177 : decode cL_law 177 = .ok (.aload_n 0, 1) := by decide +kernel
theorem dL_law_178 : decode cL_law 178 = .ok (.iload_n 3, 1) := by decide +kernel
theorem dL_law_179 : decode cL_law 179 = .ok (.iconst 4, 1) := by decide +kernel
theorem dL_law_18 : decode cL_law 18 = .ok (.iload_n 3, 1) := by decide +kernel
theorem dL_law_180 : decode cL_law 180 = .ok (.iadd, 1) := by decide +kernel
theorem dL_law_181 : decode cL_law 181 = .ok (.iaload, 1) := by decide +kernel
theorem dL_law_182 : decode cL_law 182 = .ok (.aload_n 0, 1) := by decide +kernel
theorem dL_law_183 : decode cL_law 183 = .ok (.iload_n 3, 1) := by decide +kernel
theorem dL_law_184 : decode cL_law 184 = .ok (.iconst 5, 1) := by decide +kernel
theorem dL_law_185 : decode cL_law 185 = .ok (.iadd, 1) := by decide +kernel
theorem dL_law_186 : decode cL_law 186 = .ok (.iaload, 1) := by decide +kernel
theorem dL_law_187 : decode cL_law 187 = .ok (.invokevirtual 17, 3) := by decide +kernel
theorem dL_law_19 : decode cL_law 19 = .ok (.aload_n 0, 1) := by decide +kernel
theorem dL_law_190 : decode cL_law 190 = .ok (.if_icmp .eq 495, 3) := by decide +kernel
theorem dL_law_195 : decode cL_law 195 = .ok (.aload_n 1, 1) := by decide +kernel
theorem dL_law_196 : decode cL_law 196 = .ok (.aload_n 0, 1) := by decide +kernel
theorem dL_law_197 : decode cL_law 197 = .ok (.iload_n 3, 1) := by decide +kernel
theorem dL_law_198 : decode cL_law 198 = .ok (.iconst 1, 1) := by decide +kernel
theorem dL_law_199 : decode cL_law 199 = .ok (.iadd, 1) := by decide +kernel
theorem dL_law_20 : decode cL_law 20 = .ok (.arraylength, 1) := by decide +kernel
theorem dL_law_200 : decode cL_law 200 = .ok (.iaload, 1) := by decide +kernel
theorem dL_law_201 : decode cL_law 201 = .ok (.invokevirtual 18, 3) := by decide +kernel
theorem dL_law_204 : decode cL_law 204 = .ok (.aload_n 2, 1) := by decide +kernel
theorem dL_law_205 : decode cL_law 205 = .ok (.aload_n 0, 1) := by decide +kernel
theorem dL_law_206 : decode cL_law 206 = .ok (.iload_n 3, 1) := by decide +kernel
theorem dL_law_207 : decode cL_law 207 = .ok (.iconst 1, 1) := by decide +kernel
theorem dL_law_208 : decode cL_law 208 = .ok (.iadd, 1) := by decide +kernel
theorem dL_law_209 : decode cL_law 209 = .ok (.iaload, 1) := by decide +kernel
theorem dL_law_21 : decode cL_law 21 = .ok (.bipush 6, 2) := by decide +kernel
theorem dL_law_210 : decode cL_law 210 = .ok (.invokevirtual 22, 3) := by decide +kernel
theorem dL_law_213 : decode cL_law 213 = .ok (.if_icmp .eq 472, 3) := by decide +kernel
theorem dL_law_218 : decode cL_law 218 = .ok (.aload_n 1, 1) := by decide +kernel
theorem dL_law_219 : decode cL_law 219 = .ok (.invokevirtual 23, 3) := by decide +kernel
theorem dL_law_222 : decode cL_law 222 = .ok (.aload_n 2, 1) := by decide +kernel
theorem dL_law_223 : decode cL_law 223 = .ok (.invokevirtual 27, 3) := by decide +kernel
theorem dL_law_226 : decode cL_law 226 = .ok (.if_icmp .eq 459, 3) := by decide +kernel
theorem dL_law_23 : decode cL_law 23 = .ok (.isub, 1) := by decide +kernel
theorem dL_law_231 : decode cL_law 231 = .ok (.aload_n 1, 1) := by decide +kernel
theorem dL_law_232 : decode cL_law 232 = .ok (.aload_n 0, 1) := by decide +kernel
theorem dL_law_233 : decode cL_law 233 = .ok (.iload_n 3, 1) := by decide +kernel
theorem dL_law_234 : decode cL_law 234 = .ok (.iconst 1, 1) := by decide +kernel
theorem dL_law_235 : decode cL_law 235 = .ok (.iadd, 1) := by decide +kernel
theorem dL_law_236 : decode cL_law 236 = .ok (.iaload, 1) := by decide +kernel
theorem dL_law_237 : decode cL_law 237 = .ok (.invokevirtual 28, 3) := by decide +kernel
theorem dL_law_24 : decode cL_law 24 = .ok (.if_icmp .gt 667, 3) := by decide +kernel
theorem dL_law_240 : decode cL_law 240 = .ok (.aload_n 2, 1) := by decide +kernel
theorem dL_law_241 : decode cL_law 241 = .ok (.aload_n 0, 1) := by decide +kernel
theorem dL_law_242 : decode cL_law 242 = .ok (.iload_n 3, 1) := by decide +kernel
theorem dL_law_243 : decode cL_law 243 = .ok (.iconst 1, 1) := by decide +kernel
theorem dL_law_244 : decode cL_law 244 = .ok (.iadd, 1) := by decide +kernel
theorem dL_law_245 : decode cL_law 245 = .ok (.iaload, 1) := by decide +kernel
theorem dL_law_246 : decode cL_law 246 = .ok (.invokevirtual 31, 3) := by decide +kernel
theorem dL_law_249 : decode cL_law 249 = .ok (.if_icmp .eq 436, 3) := by decide +kernel
theorem dL_law_254 : decode cL_law 254 = .ok (.aload_n 1, 1) := by decide +kernel
theorem dL_law_255 : decode cL_law 255 = .ok (.aload_n 0, 1) := by decide +kernel
theorem dL_law_256 : decode cL_law 256 = .ok (.iload_n 3, 1) := by decide +kernel
theorem dL_law_257 : decode cL_law 257 = .ok (.iconst 1, 1) := by decide +kernel
theorem dL_law_258 : decode cL_law 258 = .ok (.iadd, 1) := by decide +kernel
theorem dL_law_259 : decode cL_law 259 = .ok (.iaload, 1) := by decide +kernel
theorem dL_law_260 : decode cL_law 260 = .ok (.i2l, 1) := by decide +kernel
theorem dL_law_261 : decode cL_law 261 = .ok (.bipush 32, 2) := by decide +kernel
theorem dL_law_263 : decode cL_law 263 = .ok (.lshl, 1) := by decide +kernel
theorem dL_law_264 : decode cL_law 264 = .ok (.aload_n 0, 1) := by decide +kernel
theorem dL_law_265 : decode cL_law 265 = .ok (.iload_n 3, 1) := by decide +kernel
theorem dL_law_266 : decode cL_law 266 = .ok (.iconst 2, 1) := by decide +kernel
theorem dL_law_267 : decode cL_law 267 = .ok (.iadd, 1) := by decide +kernel
theorem dL_law_268 : decode cL_law 268 = .ok (.iaload, 1) := by decide +kernel
theorem dL_law_269 : decode cL_law 269 = .ok (.i2l, 1) := by decide +kernel
theorem dL_law_27 : decode cL_law 27 = .ok (.aload_n 0, 1) := by decide +kernel
theorem dL_law_270 : decode cL_law 270 = .ok (.ldc2_w 32, 3) := by decide +kernel
theorem dL_law_273 : decode cL_law 273 = .ok (.land, 1) := by decide +kernel
theorem dL_law_274 : decode cL_law 274 = .ok (.lor, 1) := by decide +kernel
theorem dL_law_275 : decode cL_law 275 = .ok (.invokevirtual 34, 3) := by decide +kernel
theorem dL_law_278 : decode cL_law 278 = .ok (.aload_n 2, 1) := by decide +kernel
theorem dL_law_279 : decode cL_law 279 = .ok (.aload_n 0, 1) := by decide +kernel
theorem dL_law_28 : decode cL_law 28 = .ok (.iload_n 3, 1) := by decide +kernel
theorem dL_law_280 : decode cL_law 280 = .ok (.iload_n 3, 1) := by decide +kernel
theorem dL_law_281 : decode cL_law 281 = .ok (.iconst 1, 1) := by decide +kernel
theorem dL_law_282 : decode cL_law 282 = .ok (.iadd, 1) := by decide +kernel
theorem dL_law_283 : decode cL_law 283 = .ok (.iaload, 1) := by decide +kernel
theorem dL_law_284 : decode cL_law 284 = .ok (.i2l, 1) := by decide +kernel
theorem dL_law_285 : decode cL_law 285 = .ok (.bipush 32, 2) := by decide +kernel
theorem dL_law_287 : decode cL_law 287 = .ok (.lshl, 1) := by decide +kernel
theorem dL_law_288 : decode cL_law 288 = .ok (.aload_n 0, 1) := by decide +kernel
theorem dL_law_289 : decode cL_law 289 = .ok (.iload_n 3, 1) := by decide +kernel
theorem dL_law_29 : decode cL_law 29 = .ok (.iaload, 1) := by decide +kernel
theorem dL_law_290 : decode cL_law 290 = .ok (.iconst 2, 1) := by decide +kernel
theorem dL_law_291 : decode cL_law 291 = .ok (.iadd, 1) := by decide +kernel
theorem dL_law_292 : decode cL_law 292 = .ok (.iaload, 1) := by decide +kernel
theorem dL_law_293 : decode cL_law 293 = .ok (.i2l, 1) := by decide +kernel
theorem dL_law_294 : decode cL_law 294 = .ok (.ldc2_w 32, 3) := by decide +kernel
theorem dL_law_297 : decode cL_law 297 = .ok (.land, 1) := by decide +kernel
theorem dL_law_298 : decode cL_law 298 = .ok (.lor, 1) := by decide +kernel
theorem dL_law_299 : decode cL_law 299 = .ok (.invokevirtual 38, 3) := by decide +kernel
theorem dL_law_3 : decode cL_law 3 = .ok (.dup, 1) := by decide +kernel
theorem dL_law_30 : decode cL_law 30 = .ok (.bipush 31, 2) := by decide +kernel
theorem dL_law_302 : decode cL_law 302 = .ok (.if_icmp .eq 383, 3) := by decide +kernel
theorem dL_law_307 : decode cL_law 307 = .ok (.aload_n 1, 1) := by decide +kernel
theorem dL_law_308 : decode cL_law 308 = .ok (.aload_n 0, 1) := by decide +kernel
theorem dL_law_309 : decode cL_law 309 = .ok (.iload_n 3, 1) := by decide +kernel
theorem dL_law_310 : decode cL_law 310 = .ok (.iconst 1, 1) := by decide +kernel
theorem dL_law_311 : decode cL_law 311 = .ok (.iadd, 1) := by decide +kernel
theorem dL_law_312 : decode cL_law 312 = .ok (.iaload, 1) := by decide +kernel
theorem dL_law_313 : decode cL_law 313 = .ok (.aload_n 0, 1) := by decide +kernel
theorem dL_law_314 : decode cL_law 314 = .ok (.iload_n 3, 1) := by decide +kernel
theorem dL_law_315 : decode cL_law 315 = .ok (.iconst 2, 1) := by decide +kernel
theorem dL_law_316 : decode cL_law 316 = .ok (.iadd, 1) := by decide +kernel
theorem dL_law_317 : decode cL_law 317 = .ok (.iaload, 1) := by decide +kernel
theorem dL_law_318 : decode cL_law 318 = .ok (.invokevirtual 39, 3) := by decide +kernel
theorem dL_law_32 : decode cL_law 32 = .ok (.iand, 1) := by decide +kernel
theorem dL_law_321 : decode cL_law 321 = .ok (.aload_n 2, 1) := by decide +kernel
theorem dL_law_322 : decode cL_law 322 = .ok (.aload_n 0, 1) := by decide +kernel
theorem dL_law_323 : decode cL_law 323 = .ok (.iload_n 3, 1) := by decide +kernel
theorem dL_law_324 : decode cL_law 324 = .ok (.iconst 1, 1) := by decide +kernel
theorem dL_law_325 : decode cL_law 325 = .ok (.iadd, 1) := by decide +kernel
theorem dL_law_326 : decode cL_law 326 = .ok (.iaload, 1) := by decide +kernel
theorem dL_law_327 : decode cL_law 327 = .ok (.aload_n 0, 1) := by decide +kernel
theorem dL_law_328 : decode cL_law 328 = .ok (.iload_n 3, 1) := by decide +kernel
theorem dL_law_329 : decode cL_law 329 = .ok (.iconst 2, 1) := by decide +kernel
theorem dL_law_33 : decode cL_law 33 = .ok (.tableswitch 652 0 20 #[99, 162, 185, 198, 221, 274, 307, 340, 373, 396, 409, 422, 435, 458, 471, 504, 517, 550, 573, 596, 629], 99) := by decide +kernel
theorem dL_law_330 : decode cL_law 330 = .ok (.iadd, 1) := by decide +kernel
theorem dL_law_331 : decode cL_law 331 = .ok (.iaload, 1) := by decide +kernel
theorem dL_law_332 : decode cL_law 332 = .ok (.invokevirtual 43, 3) := by decide +kernel
theorem dL_law_335 : decode cL_law 335 = .ok (.if_icmp .eq 350, 3) := by decide +kernel
theorem dL_law_340 : decode cL_law 340 = .ok (.aload_n 1, 1) := by decide +kernel
theorem dL_law_341 : decode cL_law 341 = .ok (.aload_n 0, 1) := by decide +kernel
theorem dL_law_342 : decode cL_law 342 = .ok (.iload_n 3, 1) := by decide +kernel
theorem dL_law_343 : decode cL_law 343 = .ok (.iconst 1, 1) := by decide +kernel
theorem dL_law_344 : decode cL_law 344 = .ok (.iadd, 1) := by decide +kernel
theorem dL_law_345 : decode cL_law 345 = .ok (.iaload, 1) := by decide +kernel
theorem dL_law_346 : decode cL_law 346 = .ok (.aload_n 0, 1) := by decide +kernel
theorem dL_law_347 : decode cL_law 347 = .ok (.iload_n 3, 1) := by decide +kernel
theorem dL_law_348 : decode cL_law 348 = .ok (.iconst 2, 1) := by decide +kernel
theorem dL_law_349 : decode cL_law 349 = .ok (.iadd, 1) := by decide +kernel
theorem dL_law_350 : decode cL_law 350 = .ok (.iaload, 1) := by decide +kernel
theorem dL_law_351 : decode cL_law 351 = .ok (.invokevirtual 44, 3) := by decide +kernel
theorem dL_law_354 : decode cL_law 354 = .ok (.aload_n 2, 1) := by decide +kernel
theorem dL_law_355 : decode cL_law 355 = .ok (.aload_n 0, 1) := by decide +kernel
theorem dL_law_356 : decode cL_law 356 = .ok (.iload_n 3, 1) := by decide +kernel
theorem dL_law_357 : decode cL_law 357 = .ok (.iconst 1, 1) := by decide +kernel
theorem dL_law_358 : decode cL_law 358 = .ok (.iadd, 1) := by decide +kernel
theorem dL_law_359 : decode cL_law 359 = .ok (.iaload, 1) := by decide +kernel
theorem dL_law_360 : decode cL_law 360 = .ok (.aload_n 0, 1) := by decide +kernel
theorem dL_law_361 : decode cL_law 361 = .ok (.iload_n 3, 1) := by decide +kernel
theorem dL_law_362 : decode cL_law 362 = .ok (.iconst 2, 1) := by decide +kernel
theorem dL_law_363 : decode cL_law 363 = .ok (.iadd, 1) := by decide +kernel
theorem dL_law_364 : decode cL_law 364 = .ok (.iaload, 1) := by decide +kernel
theorem dL_law_365 : decode cL_law 365 = .ok (.invokevirtual 48, 3) := by decide +kernel
theorem dL_law_368 : decode cL_law 368 = .ok (.if_icmp .eq 317, 3) := by decide +kernel
theorem dL_law_373 : decode cL_law 373 = .ok (.aload_n 1, 1) := by decide +kernel
theorem dL_law_374 : decode cL_law 374 = .ok (.aload_n 0, 1) := by decide +kernel
theorem dL_law_375 : decode cL_law 375 = .ok (.iload_n 3, 1) := by decide +kernel
theorem dL_law_376 : decode cL_law 376 = .ok (.iconst 1, 1) := by decide +kernel
theorem dL_law_377 : decode cL_law 377 = .ok (.iadd, 1) := by decide +kernel
theorem dL_law_378 : decode cL_law 378 = .ok (.iaload, 1) := by decide +kernel
theorem dL_law_379 : decode cL_law 379 = .ok (.aload_n 0, 1) := by decide +kernel
theorem dL_law_380 : decode cL_law 380 = .ok (.iload_n 3, 1) := by decide +kernel
theorem dL_law_381 : decode cL_law 381 = .ok (.iconst 2, 1) := by decide +kernel
theorem dL_law_382 : decode cL_law 382 = .ok (.iadd, 1) := by decide +kernel
theorem dL_law_383 : decode cL_law 383 = .ok (.iaload, 1) := by decide +kernel
theorem dL_law_384 : decode cL_law 384 = .ok (.invokevirtual 49, 3) := by decide +kernel
theorem dL_law_387 : decode cL_law 387 = .ok (.aload_n 2, 1) := by decide +kernel
theorem dL_law_388 : decode cL_law 388 = .ok (.aload_n 0, 1) := by decide +kernel
theorem dL_law_389 : decode cL_law 389 = .ok (.iload_n 3, 1) := by decide +kernel
theorem dL_law_390 : decode cL_law 390 = .ok (.iconst 1, 1) := by decide +kernel
theorem dL_law_391 : decode cL_law 391 = .ok (.iadd, 1) := by decide +kernel
theorem dL_law_392 : decode cL_law 392 = .ok (.iaload, 1) := by decide +kernel
theorem dL_law_393 : decode cL_law 393 = .ok (.aload_n 0, 1) := by decide +kernel
theorem dL_law_394 : decode cL_law 394 = .ok (.iload_n 3, 1) := by decide +kernel
theorem dL_law_395 : decode cL_law 395 = .ok (.iconst 2, 1) := by decide +kernel
theorem dL_law_396 : decode cL_law 396 = .ok (.iadd, 1) := by decide +kernel
theorem dL_law_397 : decode cL_law 397 = .ok (.iaload, 1) := by decide +kernel
theorem dL_law_398 : decode cL_law 398 = .ok (.invokevirtual 52, 3) := by decide +kernel
theorem dL_law_4 : decode cL_law 4 = .ok (.invokespecial 9, 3) := by decide +kernel
theorem dL_law_401 : decode cL_law 401 = .ok (.if_icmp .eq 284, 3) := by decide +kernel
theorem dL_law_406 : decode cL_law 406 = .ok (.aload_n 1, 1) := by decide +kernel
theorem dL_law_407 : decode cL_law 407 = .ok (.aload_n 0, 1) := by decide +kernel
theorem dL_law_408 : decode cL_law 408 = .ok (.iload_n 3, 1) := by decide +kernel
theorem dL_law_409 : decode cL_law 409 = .ok (.iconst 1, 1) := by decide +kernel
theorem dL_law_410 : decode cL_law 410 = .ok (.iadd, 1) := by decide +kernel
theorem dL_law_411 : decode cL_law 411 = .ok (.iaload, 1) := by decide +kernel
theorem dL_law_412 : decode cL_law 412 = .ok (.invokevirtual 53, 3) := by decide +kernel
theorem dL_law_415 : decode cL_law 415 = .ok (.aload_n 2, 1) := by decide +kernel
theorem dL_law_416 : decode cL_law 416 = .ok (.aload_n 0, 1) := by decide +kernel
theorem dL_law_417 : decode cL_law 417 = .ok (.iload_n 3, 1) := by decide +kernel
theorem dL_law_418 : decode cL_law 418 = .ok (.iconst 1, 1) := by decide +kernel
theorem dL_law_419 : decode cL_law 419 = .ok (.iadd, 1) := by decide +kernel
theorem dL_law_420 : decode cL_law 420 = .ok (.iaload, 1) := by decide +kernel
theorem dL_law_421 : decode cL_law 421 = .ok (.invokevirtual 56, 3) := by decide +kernel
theorem dL_law_424 : decode cL_law 424 = .ok (.if_icmp .eq 261, 3) := by decide +kernel
theorem dL_law_429 : decode cL_law 429 = .ok (.aload_n 1, 1) := by decide +kernel
theorem dL_law_430 : decode cL_law 430 = .ok (.invokevirtual 57, 3) := by decide +kernel
theorem dL_law_433 : decode cL_law 433 = .ok (.aload_n 2, 1) := by decide +kernel
theorem dL_law_434 : decode cL_law 434 = .ok (.invokevirtual 60, 3) := by decide +kernel
theorem dL_law_437 : decode cL_law 437 = .ok (.if_icmp .eq 248, 3) := by decide +kernel
theorem dL_law_442 : decode cL_law 442 = .ok (.aload_n 1, 1) := by decide +kernel
theorem dL_law_443 : decode cL_law 443 = .ok (.invokevirtual 61, 3) := by decide +kernel
theorem dL_law_446 : decode cL_law 446 = .ok (.aload_n 2, 1) := by decide +kernel
theorem dL_law_447 : decode cL_law 447 = .ok (.invokevirtual 64, 3) := by decide +kernel
theorem dL_law_450 : decode cL_law 450 = .ok (.if_icmp .eq 235, 3) := by decide +kernel
theorem dL_law_455 : decode cL_law 455 = .ok (.aload_n 1, 1) := by decide +kernel
theorem dL_law_456 : decode cL_law 456 = .ok (.invokevirtual 65, 3) := by decide +kernel
theorem dL_law_459 : decode cL_law 459 = .ok (.aload_n 2, 1) := by decide +kernel
theorem dL_law_460 : decode cL_law 460 = .ok (.invokevirtual 68, 3) := by decide +kernel
theorem dL_law_463 : decode cL_law 463 = .ok (.if_icmp .eq 222, 3) := by decide +kernel
theorem dL_law_468 : decode cL_law 468 = .ok (.aload_n 1, 1) := by decide +kernel
theorem dL_law_469 : decode cL_law 469 = .ok (.aload_n 0, 1) := by decide +kernel
theorem dL_law_470 : decode cL_law 470 = .ok (.iload_n 3, 1) := by decide +kernel
theorem dL_law_471 : decode cL_law 471 = .ok (.iconst 1, 1) := by decide +kernel
theorem dL_law_472 : decode cL_law 472 = .ok (.iadd, 1) := by decide +kernel
theorem dL_law_473 : decode cL_law 473 = .ok (.iaload, 1) := by decide +kernel
theorem dL_law_474 : decode cL_law 474 = .ok (.invokevirtual 69, 3) := by decide +kernel
theorem dL_law_477 : decode cL_law 477 = .ok (.aload_n 2, 1) := by decide +kernel
theorem dL_law_478 : decode cL_law 478 = .ok (.aload_n 0, 1) := by decide +kernel
theorem dL_law_479 : decode cL_law 479 = .ok (.iload_n 3, 1) := by decide +kernel
theorem dL_law_480 : decode cL_law 480 = .ok (.iconst 1, 1) := by decide +kernel
theorem dL_law_481 : decode cL_law 481 = .ok (.iadd, 1) := by decide +kernel
theorem dL_law_482 : decode cL_law 482 = .ok (.iaload, 1) := by decide +kernel
theorem dL_law_483 : decode cL_law 483 = .ok (.invokevirtual 72, 3) := by decide +kernel
theorem dL_law_486 : decode cL_law 486 = .ok (.if_icmp .eq 199, 3) := by decide +kernel
theorem dL_law_491 : decode cL_law 491 = .ok (.aload_n 1, 1) := by decide +kernel
theorem dL_law_492 : decode cL_law 492 = .ok (.invokevirtual 73, 3) := by decide +kernel
theorem dL_law_495 : decode cL_law 495 = .ok (.aload_n 2, 1) := by decide +kernel
theorem dL_law_496 : decode cL_law 496 = .ok (.invokevirtual 76, 3) := by decide +kernel
theorem dL_law_499 : decode cL_law 499 = .ok (.if_icmp .eq 186, 3) := by decide +kernel
theorem dL_law_504 : decode cL_law 504 = .ok (.aload_n 1, 1) := by decide +kernel
theorem dL_law_505 : decode cL_law 505 = .ok (.aload_n 0, 1) := by decide +kernel
theorem dL_law_506 : decode cL_law 506 = .ok (.iload_n 3, 1) := by decide +kernel
theorem dL_law_507 : decode cL_law 507 = .ok (.iconst 1, 1) := by decide +kernel
theorem dL_law_508 : decode cL_law 508 = .ok (.iadd, 1) := by decide +kernel
theorem dL_law_509 : decode cL_law 509 = .ok (.iaload, 1) := by decide +kernel
theorem dL_law_510 : decode cL_law 510 = .ok (.aload_n 0, 1) := by decide +kernel
theorem dL_law_511 : decode cL_law 511 = .ok (.iload_n 3, 1) := by decide +kernel
theorem dL_law_512 : decode cL_law 512 = .ok (.iconst 2, 1) := by decide +kernel
theorem dL_law_513 : decode cL_law 513 = .ok (.iadd, 1) := by decide +kernel
theorem dL_law_514 : decode cL_law 514 = .ok (.iaload, 1) := by decide +kernel
theorem dL_law_515 : decode cL_law 515 = .ok (.invokevirtual 77, 3) := by decide +kernel
theorem dL_law_518 : decode cL_law 518 = .ok (.aload_n 2, 1) := by decide +kernel
theorem dL_law_519 : decode cL_law 519 = .ok (.aload_n 0, 1) := by decide +kernel
theorem dL_law_520 : decode cL_law 520 = .ok (.iload_n 3, 1) := by decide +kernel
theorem dL_law_521 : decode cL_law 521 = .ok (.iconst 1, 1) := by decide +kernel
theorem dL_law_522 : decode cL_law 522 = .ok (.iadd, 1) := by decide +kernel
theorem dL_law_523 : decode cL_law 523 = .ok (.iaload, 1) := by decide +kernel
theorem dL_law_524 : decode cL_law 524 = .ok (.aload_n 0, 1) := by decide +kernel
theorem dL_law_525 : decode cL_law 525 = .ok (.iload_n 3, 1) := by decide +kernel
theorem dL_law_526 : decode cL_law 526 = .ok (.iconst 2, 1) := by decide +kernel
theorem dL_law_527 : decode cL_law 527 = .ok (.iadd, 1) := by decide +kernel
theorem dL_law_528 : decode cL_law 528 = .ok (.iaload, 1) := by decide +kernel
theorem dL_law_529 : decode cL_law 529 = .ok (.invokevirtual 80, 3) := by decide +kernel
theorem dL_law_532 : decode cL_law 532 = .ok (.if_icmp .eq 153, 3) := by decide +kernel
theorem dL_law_537 : decode cL_law 537 = .ok (.aload_n 1, 1) := by decide +kernel
theorem dL_law_538 : decode cL_law 538 = .ok (.invokevirtual 81, 3) := by decide +kernel
theorem dL_law_541 : decode cL_law 541 = .ok (.aload_n 2, 1) := by decide +kernel
theorem dL_law_542 : decode cL_law 542 = .ok (.invokevirtual 85, 3) := by decide +kernel
theorem dL_law_545 : decode cL_law 545 = .ok (.if_icmp .eq 140, 3) := by decide +kernel
theorem dL_law_550 : decode cL_law 550 = .ok (.aload_n 1, 1) := by decide +kernel
theorem dL_law_551 : decode cL_law 551 = .ok (.aload_n 0, 1) := by decide +kernel
theorem dL_law_552 : decode cL_law 552 = .ok (.iload_n 3, 1) := by decide +kernel
theorem dL_law_553 : decode cL_law 553 = .ok (.iconst 1, 1) := by decide +kernel
theorem dL_law_554 : decode cL_law 554 = .ok (.iadd, 1) := by decide +kernel
theorem dL_law_555 : decode cL_law 555 = .ok (.iaload, 1) := by decide +kernel
theorem dL_law_556 : decode cL_law 556 = .ok (.aload_n 0, 1) := by decide +kernel
theorem dL_law_557 : decode cL_law 557 = .ok (.iload_n 3, 1) := by decide +kernel
theorem dL_law_558 : decode cL_law 558 = .ok (.iconst 2, 1) := by decide +kernel
theorem dL_law_559 : decode cL_law 559 = .ok (.iadd, 1) := by decide +kernel
theorem dL_law_560 : decode cL_law 560 = .ok (.iaload, 1) := by decide +kernel
theorem dL_law_561 : decode cL_law 561 = .ok (.invokevirtual 86, 3) := by decide +kernel
theorem dL_law_564 : decode cL_law 564 = .ok (.aload_n 2, 1) := by decide +kernel
theorem dL_law_565 : decode cL_law 565 = .ok (.aload_n 0, 1) := by decide +kernel
theorem dL_law_566 : decode cL_law 566 = .ok (.iload_n 3, 1) := by decide +kernel
theorem dL_law_567 : decode cL_law 567 = .ok (.iconst 1, 1) := by decide +kernel
theorem dL_law_568 : decode cL_law 568 = .ok (.iadd, 1) := by decide +kernel
theorem dL_law_569 : decode cL_law 569 = .ok (.iaload, 1) := by decide +kernel
theorem dL_law_570 : decode cL_law 570 = .ok (.aload_n 0, 1) := by decide +kernel
theorem dL_law_571 : decode cL_law 571 = .ok (.iload_n 3, 1) := by decide +kernel
theorem dL_law_572 : decode cL_law 572 = .ok (.iconst 2, 1) := by decide +kernel
theorem dL_law_573 : decode cL_law 573 = .ok (.iadd, 1) := by decide +kernel
theorem dL_law_574 : decode cL_law 574 = .ok (.iaload, 1) := by decide +kernel
theorem dL_law_575 : decode cL_law 575 = .ok (.invokevirtual 89, 3) := by decide +kernel
theorem dL_law_578 : decode cL_law 578 = .ok (.if_icmp .eq 107, 3) := by decide +kernel
theorem dL_law_583 : decode cL_law 583 = .ok (.aload_n 1, 1) := by decide +kernel
theorem dL_law_584 : decode cL_law 584 = .ok (.aload_n 0, 1) := by decide +kernel
theorem dL_law_585 : decode cL_law 585 = .ok (.iload_n 3, 1) := by decide +kernel
theorem dL_law_586 : decode cL_law 586 = .ok (.iconst 1, 1) := by decide +kernel
theorem dL_law_587 : decode cL_law 587 = .ok (.iadd, 1) := by decide +kernel
theorem dL_law_588 : decode cL_law 588 = .ok (.iaload, 1) := by decide +kernel
theorem dL_law_589 : decode cL_law 589 = .ok (.invokevirtual 90, 3) := by decide +kernel
theorem dL_law_592 : decode cL_law 592 = .ok (.aload_n 2, 1) := by decide +kernel
theorem dL_law_593 : decode cL_law 593 = .ok (.aload_n 0, 1) := by decide +kernel
theorem dL_law_594 : decode cL_law 594 = .ok (.iload_n 3, 1) := by decide +kernel
theorem dL_law_595 : decode cL_law 595 = .ok (.iconst 1, 1) := by decide +kernel
theorem dL_law_596 : decode cL_law 596 = .ok (.iadd, 1) := by decide +kernel
theorem dL_law_597 : decode cL_law 597 = .ok (.iaload, 1) := by decide +kernel
theorem dL_law_598 : decode cL_law 598 = .ok (.invokevirtual 93, 3) := by decide +kernel
theorem dL_law_601 : decode cL_law 601 = .ok (.if_icmp .eq 84, 3) := by decide +kernel
theorem dL_law_606 : decode cL_law 606 = .ok (.aload_n 1, 1) := by decide +kernel
theorem dL_law_607 : decode cL_law 607 = .ok (.aload_n 0, 1) := by decide +kernel
theorem dL_law_608 : decode cL_law 608 = .ok (.iload_n 3, 1) := by decide +kernel
theorem dL_law_609 : decode cL_law 609 = .ok (.iconst 1, 1) := by decide +kernel
theorem dL_law_610 : decode cL_law 610 = .ok (.iadd, 1) := by decide +kernel
theorem dL_law_611 : decode cL_law 611 = .ok (.iaload, 1) := by decide +kernel
theorem dL_law_612 : decode cL_law 612 = .ok (.invokevirtual 94, 3) := by decide +kernel
theorem dL_law_615 : decode cL_law 615 = .ok (.aload_n 2, 1) := by decide +kernel
theorem dL_law_616 : decode cL_law 616 = .ok (.aload_n 0, 1) := by decide +kernel
theorem dL_law_617 : decode cL_law 617 = .ok (.iload_n 3, 1) := by decide +kernel
theorem dL_law_618 : decode cL_law 618 = .ok (.iconst 1, 1) := by decide +kernel
theorem dL_law_619 : decode cL_law 619 = .ok (.iadd, 1) := by decide +kernel
theorem dL_law_620 : decode cL_law 620 = .ok (.iaload, 1) := by decide +kernel
theorem dL_law_621 : decode cL_law 621 = .ok (.invokevirtual 97, 3) := by decide +kernel
theorem dL_law_624 : decode cL_law 624 = .ok (.if_icmp .eq 61, 3) := by decide +kernel
theorem dL_law_629 : decode cL_law 629 = .ok (.aload_n 1, 1) := by decide +kernel
theorem dL_law_630 : decode cL_law 630 = .ok (.aload_n 0, 1) := by decide +kernel
theorem dL_law_631 : decode cL_law 631 = .ok (.iload_n 3, 1) := by decide +kernel
theorem dL_law_632 : decode cL_law 632 = .ok (.iconst 1, 1) := by decide +kernel
theorem dL_law_633 : decode cL_law 633 = .ok (.iadd, 1) := by decide +kernel
theorem dL_law_634 : decode cL_law 634 = .ok (.iaload, 1) := by decide +kernel
theorem dL_law_635 : decode cL_law 635 = .ok (.aload_n 0, 1) := by decide +kernel
theorem dL_law_636 : decode cL_law 636 = .ok (.iload_n 3, 1) := by decide +kernel
theorem dL_law_637 : decode cL_law 637 = .ok (.iconst 2, 1) := by decide +kernel
theorem dL_law_638 : decode cL_law 638 = .ok (.iadd, 1) := by decide +kernel
theorem dL_law_639 : decode cL_law 639 = .ok (.iaload, 1) := by decide +kernel
theorem dL_law_640 : decode cL_law 640 = .ok (.invokevirtual 98, 3) := by decide +kernel
theorem dL_law_643 : decode cL_law 643 = .ok (.aload_n 2, 1) := by decide +kernel
theorem dL_law_644 : decode cL_law 644 = .ok (.aload_n 0, 1) := by decide +kernel
theorem dL_law_645 : decode cL_law 645 = .ok (.iload_n 3, 1) := by decide +kernel
theorem dL_law_646 : decode cL_law 646 = .ok (.iconst 1, 1) := by decide +kernel
theorem dL_law_647 : decode cL_law 647 = .ok (.iadd, 1) := by decide +kernel
theorem dL_law_648 : decode cL_law 648 = .ok (.iaload, 1) := by decide +kernel
theorem dL_law_649 : decode cL_law 649 = .ok (.aload_n 0, 1) := by decide +kernel
theorem dL_law_650 : decode cL_law 650 = .ok (.iload_n 3, 1) := by decide +kernel
theorem dL_law_651 : decode cL_law 651 = .ok (.iconst 2, 1) := by decide +kernel
theorem dL_law_652 : decode cL_law 652 = .ok (.iadd, 1) := by decide +kernel
theorem dL_law_653 : decode cL_law 653 = .ok (.iaload, 1) := by decide +kernel
theorem dL_law_654 : decode cL_law 654 = .ok (.invokevirtual 101, 3) := by decide +kernel
theorem dL_law_657 : decode cL_law 657 = .ok (.if_icmp .eq 28, 3) := by decide +kernel
theorem dL_law_662 : decode cL_law 662 = .ok (.aload_n 1, 1) := by decide +kernel
theorem dL_law_663 : decode cL_law 663 = .ok (.aload_n 0, 1) := by decide +kernel
theorem dL_law_664 : decode cL_law 664 = .ok (.iload_n 3, 1) := by decide +kernel
theorem dL_law_665 : decode cL_law 665 = .ok (.iconst 1, 1) := by decide +kernel
theorem dL_law_666 : decode cL_law 666 = .ok (.iadd, 1) := by decide +kernel
theorem dL_law_667 : decode cL_law 667 = .ok (.iaload, 1) := by decide +kernel
theorem dL_law_668 : decode cL_law 668 = .ok (.invokevirtual 102, 3) := by decide +kernel
theorem dL_law_671 : decode cL_law 671 = .ok (.aload_n 2, 1) := by decide +kernel
theorem dL_law_672 : decode cL_law 672 = .ok (.aload_n 0, 1) := by decide +kernel
theorem dL_law_673 : decode cL_law 673 = .ok (.iload_n 3, 1) := by decide +kernel
theorem dL_law_674 : decode cL_law 674 = .ok (.iconst 1, 1) := by decide +kernel
theorem dL_law_675 : decode cL_law 675 = .ok (.iadd, 1) := by decide +kernel
theorem dL_law_676 : decode cL_law 676 = .ok (.iaload, 1) := by decide +kernel
theorem dL_law_677 : decode cL_law 677 = .ok (.invokevirtual 105, 3) := by decide +kernel
theorem dL_law_680 : decode cL_law 680 = .ok (.if_icmp .eq 5, 3) := by decide +kernel
theorem dL_law_685 : decode cL_law 685 = .ok (.iinc 3 6, 3) := by decide +kernel
theorem dL_law_688 : decode cL_law 688 = .ok (.goto (-670), 3) := by decide +kernel
theorem dL_law_691 : decode cL_law 691 = .ok (.iconst 1, 1) := by decide +kernel
theorem dL_law_692 : decode cL_law 692 = .ok (.ireturn, 1) := by decide +kernel
theorem dL_law_7 : decode cL_law 7 = .ok (.astore_n 1, 1) := by decide +kernel
theorem dL_law_8 : decode cL_law 8 = .ok (.new 10, 3) := by decide +kernel
theorem dX0_arrange_0 : decode cX0_arrange 0 = .ok (.lconst 0, 1) := by decide +kernel
theorem dX0_arrange_1 : decode cX0_arrange 1 = .ok (.lstore_n 1, 1) := by decide +kernel
theorem dX0_arrange_10 : decode cX0_arrange 10 = .ok (.getfield 46, 3) := by decide +kernel
theorem dX0_arrange_129 : decode cX0_arrange 129 = .ok (.return_, 1) := by decide +kernel
theorem dX0_arrange_13 : decode cX0_arrange 13 = .ok (.if_icmp .ge 116, 3) := by decide +kernel
theorem dX0_arrange_2 : decode cX0_arrange 2 = .ok (.iconst 0, 1) := by decide +kernel
theorem dX0_arrange_3 : decode cX0_arrange 3 = .ok (.istore_n 3, 1) := by decide +kernel
theorem dX0_arrange_4 : decode cX0_arrange 4 = .ok (.iconst 0, 1) := by decide +kernel
theorem dX0_arrange_5 : decode cX0_arrange 5 = .ok (.istore 4, 2) := by decide +kernel
theorem dX0_arrange_7 : decode cX0_arrange 7 = .ok (.iload 4, 2) := by decide +kernel
theorem dX0_arrange_9 : decode cX0_arrange 9 = .ok (.aload_n 0, 1) := by decide +kernel
theorem dX0_clear_0 : decode cX0_clear 0 = .ok (.aload_n 0, 1) := by decide +kernel
theorem dX0_clear_1 : decode cX0_clear 1 = .ok (.iconst 0, 1) := by decide +kernel
theorem dX0_clear_10 : decode cX0_clear 10 = .ok (.return_, 1) := by decide +kernel
theorem dX0_clear_2 : decode cX0_clear 2 = .ok (.putfield 46, 3) := by decide +kernel
theorem dX0_clear_5 : decode cX0_clear 5 = .ok (.aload_n 0, 1) := by decide +kernel
theorem dX0_clear_6 : decode cX0_clear 6 = .ok (.iconst 0, 1) := by decide +kernel
theorem dX0_clear_7 : decode cX0_clear 7 = .ok (.putfield 50, 3) := by decide +kernel
theorem dX0_find_0 : decode cX0_find 0 = .ok (.iconst 0, 1) := by decide +kernel
theorem dX0_find_1 : decode cX0_find 1 = .ok (.istore_n 3, 1) := by decide +kernel
theorem dX0_find_2 : decode cX0_find 2 = .ok (.iload_n 3, 1) := by decide +kernel
theorem dX0_find_29 : decode cX0_find 29 = .ok (.iconst (-1), 1) := by decide +kernel
theorem dX0_find_3 : decode cX0_find 3 = .ok (.aload_n 0, 1) := by decide +kernel
theorem dX0_find_30 : decode cX0_find 30 = .ok (.ireturn, 1) := by decide +kernel
theorem dX0_find_4 : decode cX0_find 4 = .ok (.getfield 46, 3) := by decide +kernel
theorem dX0_find_7 : decode cX0_find 7 = .ok (.if_icmp .ge 22, 3) := by decide +kernel
theorem dX0_has_0 : decode cX0_has 0 = .ok (.iload_n 1, 1) := by decide +kernel
theorem dX0_has_1 : decode cX0_has 1 = .ok (.ifCond .lt 15, 3) := by decide +kernel
theorem dX0_has_16 : decode cX0_has 16 = .ok (.iconst 0, 1) := by decide +kernel
theorem dX0_has_17 : decode cX0_has 17 = .ok (.ireturn, 1) := by decide +kernel
theorem dX0_has_4 : decode cX0_has 4 = .ok (.iload_n 1, 1) := by decide +kernel
theorem dX0_has_5 : decode cX0_has 5 = .ok (.aload_n 0, 1) := by decide +kernel
theorem dX0_has_6 : decode cX0_has 6 = .ok (.getfield 46, 3) := by decide +kernel
theorem dX0_has_9 : decode cX0_has 9 = .ok (.if_icmp .ge 7, 3) := by decide +kernel
theorem dX0_init_0 : decode cX0_init 0 = .ok (.aload_n 0, 1) := by decide +kernel
theorem dX0_init_1 : decode cX0_init 1 = .ok (.invokespecial 3, 3) := by decide +kernel
theorem dX0_init_12 : decode cX0_init 12 = .ok (.aload_n 0, 1) := by decide +kernel
theorem dX0_init_13 : decode cX0_init 13 = .ok (.bipush 60, 2) := by decide +kernel
theorem dX0_init_15 : decode cX0_init 15 = .ok (.newarray .int, 2) := by decide +kernel
theorem dX0_init_17 : decode cX0_init 17 = .ok (.putfield 15, 3) := by decide +kernel
theorem dX0_init_20 : decode cX0_init 20 = .ok (.aload_n 0, 1) := by decide +kernel
theorem dX0_init_21 : decode cX0_init 21 = .ok (.bipush 60, 2) := by decide +kernel
theorem dX0_init_23 : decode cX0_init 23 = .ok (.newarray .int, 2) := by decide +kernel
theorem dX0_init_25 : decode cX0_init 25 = .ok (.putfield 19, 3) := by decide +kernel
theorem dX0_init_28 : decode cX0_init 28 = .ok (.aload_n 0, 1) := by decide +kernel
theorem dX0_init_29 : decode cX0_init 29 = .ok (.bipush 60, 2) := by decide +kernel
theorem dX0_init_31 : decode cX0_init 31 = .ok (.newarray .int, 2) := by decide +kernel
theorem dX0_init_33 : decode cX0_init 33 = .ok (.putfield 22, 3) := by decide +kernel
theorem dX0_init_36 : decode cX0_init 36 = .ok (.aload_n 0, 1) := by decide +kernel
theorem dX0_init_37 : decode cX0_init 37 = .ok (.bipush 60, 2) := by decide +kernel
theorem dX0_init_39 : decode cX0_init 39 = .ok (.newarray .int, 2) := by decide +kernel
theorem dX0_init_4 : decode cX0_init 4 = .ok (.aload_n 0, 1) := by decide +kernel
theorem dX0_init_41 : decode cX0_init 41 = .ok (.putfield 25, 3) := by decide +kernel
theorem dX0_init_44 : decode cX0_init 44 = .ok (.aload_n 0, 1) := by decide +kernel
theorem dX0_init_45 : decode cX0_init 45 = .ok (.sipush 720, 3) := by decide +kernel
theorem dX0_init_48 : decode cX0_init 48 = .ok (.newarray .int, 2) := by decide +kernel
theorem dX0_init_5 : decode cX0_init 5 = .ok (.bipush 60, 2) := by decide +kernel
theorem dX0_init_50 : decode cX0_init 50 = .ok (.putfield 28, 3) := by decide +kernel
theorem dX0_init_53 : decode cX0_init 53 = .ok (.aload_n 0, 1) := by decide +kernel
theorem dX0_init_54 : decode cX0_init 54 = .ok (.bipush 60, 2) := by decide +kernel
theorem dX0_init_56 : decode cX0_init 56 = .ok (.newarray .int, 2) := by decide +kernel
theorem dX0_init_58 : decode cX0_init 58 = .ok (.putfield 31, 3) := by decide +kernel
theorem dX0_init_61 : decode cX0_init 61 = .ok (.aload_n 0, 1) := by decide +kernel
theorem dX0_init_62 : decode cX0_init 62 = .ok (.bipush 60, 2) := by decide +kernel
theorem dX0_init_64 : decode cX0_init 64 = .ok (.newarray .int, 2) := by decide +kernel
theorem dX0_init_66 : decode cX0_init 66 = .ok (.putfield 34, 3) := by decide +kernel
theorem dX0_init_69 : decode cX0_init 69 = .ok (.aload_n 0, 1) := by decide +kernel
theorem dX0_init_7 : decode cX0_init 7 = .ok (.newarray .long, 2) := by decide +kernel
theorem dX0_init_70 : decode cX0_init 70 = .ok (.bipush 60, 2) := by decide +kernel
theorem dX0_init_72 : decode cX0_init 72 = .ok (.newarray .long, 2) := by decide +kernel
theorem dX0_init_74 : decode cX0_init 74 = .ok (.putfield 37, 3) := by decide +kernel
theorem dX0_init_77 : decode cX0_init 77 = .ok (.aload_n 0, 1) := by decide +kernel
theorem dX0_init_78 : decode cX0_init 78 = .ok (.bipush 60, 2) := by decide +kernel
theorem dX0_init_80 : decode cX0_init 80 = .ok (.newarray .int, 2) := by decide +kernel
theorem dX0_init_82 : decode cX0_init 82 = .ok (.putfield 40, 3) := by decide +kernel
theorem dX0_init_85 : decode cX0_init 85 = .ok (.aload_n 0, 1) := by decide +kernel
theorem dX0_init_86 : decode cX0_init 86 = .ok (.bipush 60, 2) := by decide +kernel
theorem dX0_init_88 : decode cX0_init 88 = .ok (.newarray .int, 2) := by decide +kernel
theorem dX0_init_9 : decode cX0_init 9 = .ok (.putfield 9, 3) := by decide +kernel
theorem dX0_init_90 : decode cX0_init 90 = .ok (.putfield 43, 3) := by decide +kernel
theorem dX0_init_93 : decode cX0_init 93 = .ok (.return_, 1) := by decide +kernel
theorem dX0_isKind_0 : decode cX0_isKind 0 = .ok (.aload_n 0, 1) := by decide +kernel
theorem dX0_isKind_1 : decode cX0_isKind 1 = .ok (.iload_n 1, 1) := by decide +kernel
theorem dX0_isKind_2 : decode cX0_isKind 2 = .ok (.invokevirtual 53, 3) := by decide +kernel
theorem dX0_isKind_22 : decode cX0_isKind 22 = .ok (.iconst 0, 1) := by decide +kernel
theorem dX0_isKind_23 : decode cX0_isKind 23 = .ok (.ireturn, 1) := by decide +kernel
theorem dX0_isKind_5 : decode cX0_isKind 5 = .ok (.ifCond .eq 17, 3) := by decide +kernel
theorem dX1_advance_0 : decode cX1_advance 0 = .ok (.aload_n 0, 1) := by decide +kernel
theorem dX1_advance_1 : decode cX1_advance 1 = .ok (.getfield 23, 3) := by decide +kernel
theorem dX1_advance_39 : decode cX1_advance 39 = .ok (.aload_n 0, 1) := by decide +kernel
theorem dX1_advance_4 : decode cX1_advance 4 = .ok (.aload_n 0, 1) := by decide +kernel
theorem dX1_advance_40 : decode cX1_advance 40 = .ok (.aload_n 0, 1) := by decide +kernel
theorem dX1_advance_41 : decode cX1_advance 41 = .ok (.getfield 23, 3) := by decide +kernel
theorem dX1_advance_44 : decode cX1_advance 44 = .ok (.putfield 30, 3) := by decide +kernel
theorem dX1_advance_47 : decode cX1_advance 47 = .ok (.aload_n 0, 1) := by decide +kernel
theorem dX1_advance_48 : decode cX1_advance 48 = .ok (.getfield 23, 3) := by decide +kernel
theorem dX1_advance_5 : decode cX1_advance 5 = .ok (.getfield 19, 3) := by decide +kernel
theorem dX1_advance_51 : decode cX1_advance 51 = .ok (.aload_n 0, 1) := by decide +kernel
theorem dX1_advance_52 : decode cX1_advance 52 = .ok (.getfield 19, 3) := by decide +kernel
theorem dX1_advance_55 : decode cX1_advance 55 = .ok (.if_icmp .lt 9, 3) := by decide +kernel
theorem dX1_advance_58 : decode cX1_advance 58 = .ok (.aload_n 0, 1) := by decide +kernel
theorem dX1_advance_59 : decode cX1_advance 59 = .ok (.iconst 1, 1) := by decide +kernel
theorem dX1_advance_60 : decode cX1_advance 60 = .ok (.putfield 33, 3) := by decide +kernel
theorem dX1_advance_63 : decode cX1_advance 63 = .ok (.return_, 1) := by decide +kernel
theorem dX1_advance_8 : decode cX1_advance 8 = .ok (.if_icmp .ge 31, 3) := by decide +kernel
theorem dX1_begin_0 : decode cX1_begin 0 = .ok (.aload_n 0, 1) := by decide +kernel
theorem dX1_begin_1 : decode cX1_begin 1 = .ok (.aload_n 1, 1) := by decide +kernel
theorem dX1_begin_12 : decode cX1_begin 12 = .ok (.putfield 19, 3) := by decide +kernel
theorem dX1_begin_15 : decode cX1_begin 15 = .ok (.aload_n 0, 1) := by decide +kernel
theorem dX1_begin_16 : decode cX1_begin 16 = .ok (.iconst 0, 1) := by decide +kernel
theorem dX1_begin_17 : decode cX1_begin 17 = .ok (.putfield 23, 3) := by decide +kernel
theorem dX1_begin_2 : decode cX1_begin 2 = .ok (.putfield 7, 3) := by decide +kernel
theorem dX1_begin_20 : decode cX1_begin 20 = .ok (.return_, 1) := by decide +kernel
theorem dX1_begin_5 : decode cX1_begin 5 = .ok (.aload_n 0, 1) := by decide +kernel
theorem dX1_begin_6 : decode cX1_begin 6 = .ok (.iload_n 2, 1) := by decide +kernel
theorem dX1_begin_7 : decode cX1_begin 7 = .ok (.aload_n 1, 1) := by decide +kernel
theorem dX1_begin_8 : decode cX1_begin 8 = .ok (.arraylength, 1) := by decide +kernel
theorem dX1_begin_9 : decode cX1_begin 9 = .ok (.invokestatic 13, 3) := by decide +kernel
theorem dX1_init_0 : decode cX1_init 0 = .ok (.aload_n 0, 1) := by decide +kernel
theorem dX1_init_1 : decode cX1_init 1 = .ok (.invokespecial 1, 3) := by decide +kernel
theorem dX1_init_4 : decode cX1_init 4 = .ok (.return_, 1) := by decide +kernel
theorem dX2_settle_0 : decode cX2_settle 0 = .ok (.iconst 0, 1) := by decide +kernel
theorem dX2_settle_1 : decode cX2_settle 1 = .ok (.istore_n 2, 1) := by decide +kernel
theorem dX2_settle_2 : decode cX2_settle 2 = .ok (.iload_n 2, 1) := by decide +kernel
theorem dX2_settle_3 : decode cX2_settle 3 = .ok (.aload_n 0, 1) := by decide +kernel
theorem dX2_settle_4 : decode cX2_settle 4 = .ok (.getfield 9, 3) := by decide +kernel
theorem dX2_settle_64 : decode cX2_settle 64 = .ok (.return_, 1) := by decide +kernel
theorem dX2_settle_7 : decode cX2_settle 7 = .ok (.if_icmp .ge 57, 3) := by decide +kernel
theorem dX3_checkLoops_0 : decode cX3_checkLoops 0 = .ok (.aload_n 0, 1) := by decide +kernel
theorem dX3_checkLoops_1 : decode cX3_checkLoops 1 = .ok (.getfield 36, 3) := by decide +kernel
theorem dX3_checkLoops_12 : decode cX3_checkLoops 12 = .ok (.getfield 230, 3) := by decide +kernel
theorem dX3_checkLoops_125 : decode cX3_checkLoops 125 = .ok (.iconst 1, 1) := by decide +kernel
theorem dX3_checkLoops_126 : decode cX3_checkLoops 126 = .ok (.ireturn, 1) := by decide +kernel
theorem dX3_checkLoops_15 : decode cX3_checkLoops 15 = .ok (.iconst 0, 1) := by decide +kernel
theorem dX3_checkLoops_16 : decode cX3_checkLoops 16 = .ok (.aload_n 0, 1) := by decide +kernel
theorem dX3_checkLoops_17 : decode cX3_checkLoops 17 = .ok (.getfield 33, 3) := by decide +kernel
theorem dX3_checkLoops_20 : decode cX3_checkLoops 20 = .ok (.iconst 0, 1) := by decide +kernel
theorem dX3_checkLoops_21 : decode cX3_checkLoops 21 = .ok (.bipush 60, 2) := by decide +kernel
theorem dX3_checkLoops_23 : decode cX3_checkLoops 23 = .ok (.invokestatic 233, 3) := by decide +kernel
theorem dX3_checkLoops_26 : decode cX3_checkLoops 26 = .ok (.iconst 0, 1) := by decide +kernel
theorem dX3_checkLoops_27 : decode cX3_checkLoops 27 = .ok (.istore_n 2, 1) := by decide +kernel
theorem dX3_checkLoops_28 : decode cX3_checkLoops 28 = .ok (.iload_n 2, 1) := by decide +kernel
theorem dX3_checkLoops_29 : decode cX3_checkLoops 29 = .ok (.iload_n 1, 1) := by decide +kernel
theorem dX3_checkLoops_30 : decode cX3_checkLoops 30 = .ok (.if_icmp .ge 52, 3) := by decide +kernel
theorem dX3_checkLoops_4 : decode cX3_checkLoops 4 = .ok (.getfield 154, 3) := by decide +kernel
theorem dX3_checkLoops_7 : decode cX3_checkLoops 7 = .ok (.istore_n 1, 1) := by decide +kernel
theorem dX3_checkLoops_8 : decode cX3_checkLoops 8 = .ok (.aload_n 0, 1) := by decide +kernel
theorem dX3_checkLoops_82 : decode cX3_checkLoops 82 = .ok (.iconst 0, 1) := by decide +kernel
theorem dX3_checkLoops_83 : decode cX3_checkLoops 83 = .ok (.istore_n 2, 1) := by decide +kernel
theorem dX3_checkLoops_84 : decode cX3_checkLoops 84 = .ok (.iload_n 2, 1) := by decide +kernel
theorem dX3_checkLoops_85 : decode cX3_checkLoops 85 = .ok (.iload_n 1, 1) := by decide +kernel
theorem dX3_checkLoops_86 : decode cX3_checkLoops 86 = .ok (.if_icmp .ge 39, 3) := by decide +kernel
theorem dX3_checkLoops_9 : decode cX3_checkLoops 9 = .ok (.getfield 36, 3) := by decide +kernel
theorem dX3_init_0 : decode cX3_init 0 = .ok (.aload_n 0, 1) := by decide +kernel
theorem dX3_init_1 : decode cX3_init 1 = .ok (.invokespecial 3, 3) := by decide +kernel
theorem dX3_init_10 : decode cX3_init 10 = .ok (.new 15, 3) := by decide +kernel
theorem dX3_init_13 : decode cX3_init 13 = .ok (.dup, 1) := by decide +kernel
theorem dX3_init_14 : decode cX3_init 14 = .ok (.invokespecial 17, 3) := by decide +kernel
theorem dX3_init_17 : decode cX3_init 17 = .ok (.putfield 18, 3) := by decide +kernel
theorem dX3_init_20 : decode cX3_init 20 = .ok (.aload_n 0, 1) := by decide +kernel
theorem dX3_init_21 : decode cX3_init 21 = .ok (.sipush 667, 3) := by decide +kernel
theorem dX3_init_24 : decode cX3_init 24 = .ok (.newarray .long, 2) := by decide +kernel
theorem dX3_init_26 : decode cX3_init 26 = .ok (.putfield 22, 3) := by decide +kernel
theorem dX3_init_29 : decode cX3_init 29 = .ok (.aload_n 0, 1) := by decide +kernel
theorem dX3_init_30 : decode cX3_init 30 = .ok (.sipush 667, 3) := by decide +kernel
theorem dX3_init_33 : decode cX3_init 33 = .ok (.newarray .int, 2) := by decide +kernel
theorem dX3_init_35 : decode cX3_init 35 = .ok (.putfield 26, 3) := by decide +kernel
theorem dX3_init_38 : decode cX3_init 38 = .ok (.aload_n 0, 1) := by decide +kernel
theorem dX3_init_39 : decode cX3_init 39 = .ok (.sipush 667, 3) := by decide +kernel
theorem dX3_init_4 : decode cX3_init 4 = .ok (.aload_n 0, 1) := by decide +kernel
theorem dX3_init_42 : decode cX3_init 42 = .ok (.newarray .int, 2) := by decide +kernel
theorem dX3_init_44 : decode cX3_init 44 = .ok (.putfield 30, 3) := by decide +kernel
theorem dX3_init_47 : decode cX3_init 47 = .ok (.aload_n 0, 1) := by decide +kernel
theorem dX3_init_48 : decode cX3_init 48 = .ok (.bipush 60, 2) := by decide +kernel
theorem dX3_init_5 : decode cX3_init 5 = .ok (.iconst (-1), 1) := by decide +kernel
theorem dX3_init_50 : decode cX3_init 50 = .ok (.newarray .long, 2) := by decide +kernel
theorem dX3_init_52 : decode cX3_init 52 = .ok (.putfield 33, 3) := by decide +kernel
theorem dX3_init_55 : decode cX3_init 55 = .ok (.return_, 1) := by decide +kernel
theorem dX3_init_6 : decode cX3_init 6 = .ok (.putfield 9, 3) := by decide +kernel
theorem dX3_init_9 : decode cX3_init 9 = .ok (.aload_n 0, 1) := by decide +kernel
theorem dX3_linkUses_0 : decode cX3_linkUses 0 = .ok (.iconst (-1), 1) := by decide +kernel
theorem dX3_linkUses_1 : decode cX3_linkUses 1 = .ok (.istore_n 1, 1) := by decide +kernel
theorem dX3_linkUses_140 : decode cX3_linkUses 140 = .ok (.iconst 1, 1) := by decide +kernel
theorem dX3_linkUses_141 : decode cX3_linkUses 141 = .ok (.ireturn, 1) := by decide +kernel
theorem dX3_linkUses_2 : decode cX3_linkUses 2 = .ok (.iconst 0, 1) := by decide +kernel
theorem dX3_linkUses_3 : decode cX3_linkUses 3 = .ok (.istore_n 2, 1) := by decide +kernel
theorem dX3_linkUses_4 : decode cX3_linkUses 4 = .ok (.iload_n 2, 1) := by decide +kernel
theorem dX3_linkUses_5 : decode cX3_linkUses 5 = .ok (.aload_n 0, 1) := by decide +kernel
theorem dX3_linkUses_6 : decode cX3_linkUses 6 = .ok (.getfield 48, 3) := by decide +kernel
theorem dX3_linkUses_9 : decode cX3_linkUses 9 = .ok (.if_icmp .ge 131, 3) := by decide +kernel
theorem dX3_readInto_0 : decode cX3_readInto 0 = .ok (.aload_n 0, 1) := by decide +kernel
theorem dX3_readInto_1 : decode cX3_readInto 1 = .ok (.aload_n 1, 1) := by decide +kernel
theorem dX3_readInto_12 : decode cX3_readInto 12 = .ok (.aload_n 0, 1) := by decide +kernel
theorem dX3_readInto_13 : decode cX3_readInto 13 = .ok (.iconst 0, 1) := by decide +kernel
theorem dX3_readInto_14 : decode cX3_readInto 14 = .ok (.putfield 45, 3) := by decide +kernel
theorem dX3_readInto_17 : decode cX3_readInto 17 = .ok (.aload_n 0, 1) := by decide +kernel
theorem dX3_readInto_18 : decode cX3_readInto 18 = .ok (.iconst (-1), 1) := by decide +kernel
theorem dX3_readInto_19 : decode cX3_readInto 19 = .ok (.putfield 9, 3) := by decide +kernel
theorem dX3_readInto_2 : decode cX3_readInto 2 = .ok (.putfield 36, 3) := by decide +kernel
theorem dX3_readInto_22 : decode cX3_readInto 22 = .ok (.aload_n 0, 1) := by decide +kernel
theorem dX3_readInto_23 : decode cX3_readInto 23 = .ok (.iconst 0, 1) := by decide +kernel
theorem dX3_readInto_24 : decode cX3_readInto 24 = .ok (.putfield 48, 3) := by decide +kernel
theorem dX3_readInto_27 : decode cX3_readInto 27 = .ok (.aload_n 0, 1) := by decide +kernel
theorem dX3_readInto_28 : decode cX3_readInto 28 = .ok (.getfield 18, 3) := by decide +kernel
theorem dX3_readInto_31 : decode cX3_readInto 31 = .ok (.aload_n 2, 1) := by decide +kernel
theorem dX3_readInto_32 : decode cX3_readInto 32 = .ok (.iload_n 3, 1) := by decide +kernel
theorem dX3_readInto_33 : decode cX3_readInto 33 = .ok (.invokevirtual 51, 3) := by decide +kernel
theorem dX3_readInto_36 : decode cX3_readInto 36 = .ok (.aload_n 0, 1) := by decide +kernel
theorem dX3_readInto_37 : decode cX3_readInto 37 = .ok (.invokevirtual 55, 3) := by decide +kernel
theorem dX3_readInto_40 : decode cX3_readInto 40 = .ok (.ifCond .eq 17, 3) := by decide +kernel
theorem dX3_readInto_43 : decode cX3_readInto 43 = .ok (.aload_n 0, 1) := by decide +kernel
theorem dX3_readInto_44 : decode cX3_readInto 44 = .ok (.invokevirtual 59, 3) := by decide +kernel
theorem dX3_readInto_47 : decode cX3_readInto 47 = .ok (.ifCond .eq 10, 3) := by decide +kernel
theorem dX3_readInto_5 : decode cX3_readInto 5 = .ok (.aload_n 0, 1) := by decide +kernel
theorem dX3_readInto_50 : decode cX3_readInto 50 = .ok (.aload_n 0, 1) := by decide +kernel
theorem dX3_readInto_51 : decode cX3_readInto 51 = .ok (.invokevirtual 62, 3) := by decide +kernel
theorem dX3_readInto_54 : decode cX3_readInto 54 = .ok (.ifCond .ne 5, 3) := by decide +kernel
theorem dX3_readInto_59 : decode cX3_readInto 59 = .ok (.aload_n 0, 1) := by decide +kernel
theorem dX3_readInto_6 : decode cX3_readInto 6 = .ok (.getfield 36, 3) := by decide +kernel
theorem dX3_readInto_60 : decode cX3_readInto 60 = .ok (.getfield 36, 3) := by decide +kernel
theorem dX3_readInto_63 : decode cX3_readInto 63 = .ok (.invokevirtual 65, 3) := by decide +kernel
theorem dX3_readInto_66 : decode cX3_readInto 66 = .ok (.iconst 1, 1) := by decide +kernel
theorem dX3_readInto_67 : decode cX3_readInto 67 = .ok (.ireturn, 1) := by decide +kernel
theorem dX3_readInto_9 : decode cX3_readInto 9 = .ok (.invokevirtual 40, 3) := by decide +kernel
theorem dX3_takeTokens_0 : decode cX3_takeTokens 0 = .ok (.aload_n 0, 1) := by decide +kernel
theorem dX3_takeTokens_1 : decode cX3_takeTokens 1 = .ok (.iconst 0, 1) := by decide +kernel
theorem dX3_takeTokens_12 : decode cX3_takeTokens 12 = .ok (.iconst 0, 1) := by decide +kernel
theorem dX3_takeTokens_13 : decode cX3_takeTokens 13 = .ok (.istore_n 1, 1) := by decide +kernel
theorem dX3_takeTokens_14 : decode cX3_takeTokens 14 = .ok (.iload_n 1, 1) := by decide +kernel
theorem dX3_takeTokens_15 : decode cX3_takeTokens 15 = .ok (.sipush 2000, 3) := by decide +kernel
theorem dX3_takeTokens_18 : decode cX3_takeTokens 18 = .ok (.if_icmp .ge 36, 3) := by decide +kernel
theorem dX3_takeTokens_2 : decode cX3_takeTokens 2 = .ok (.putfield 68, 3) := by decide +kernel
theorem dX3_takeTokens_21 : decode cX3_takeTokens 21 = .ok (.aload_n 0, 1) := by decide +kernel
theorem dX3_takeTokens_22 : decode cX3_takeTokens 22 = .ok (.getfield 18, 3) := by decide +kernel
theorem dX3_takeTokens_25 : decode cX3_takeTokens 25 = .ok (.getfield 74, 3) := by decide +kernel
theorem dX3_takeTokens_28 : decode cX3_takeTokens 28 = .ok (.iconst 1, 1) := by decide +kernel
theorem dX3_takeTokens_29 : decode cX3_takeTokens 29 = .ok (.if_icmp .eq 25, 3) := by decide +kernel
theorem dX3_takeTokens_5 : decode cX3_takeTokens 5 = .ok (.aload_n 0, 1) := by decide +kernel
theorem dX3_takeTokens_54 : decode cX3_takeTokens 54 = .ok (.aload_n 0, 1) := by decide +kernel
theorem dX3_takeTokens_55 : decode cX3_takeTokens 55 = .ok (.getfield 68, 3) := by decide +kernel
theorem dX3_takeTokens_58 : decode cX3_takeTokens 58 = .ok (.ifCond .eq 10, 3) := by decide +kernel
theorem dX3_takeTokens_6 : decode cX3_takeTokens 6 = .ok (.getfield 18, 3) := by decide +kernel
theorem dX3_takeTokens_68 : decode cX3_takeTokens 68 = .ok (.iconst 1, 1) := by decide +kernel
theorem dX3_takeTokens_69 : decode cX3_takeTokens 69 = .ok (.goto 4, 3) := by decide +kernel
theorem dX3_takeTokens_73 : decode cX3_takeTokens 73 = .ok (.ireturn, 1) := by decide +kernel
theorem dX3_takeTokens_9 : decode cX3_takeTokens 9 = .ok (.invokevirtual 71, 3) := by decide +kernel
theorem dX4_begin_0 : decode cX4_begin 0 = .ok (.aload_n 0, 1) := by decide +kernel
theorem dX4_begin_1 : decode cX4_begin 1 = .ok (.iconst 0, 1) := by decide +kernel
theorem dX4_begin_10 : decode cX4_begin 10 = .ok (.aload_n 0, 1) := by decide +kernel
theorem dX4_begin_11 : decode cX4_begin 11 = .ok (.lconst 0, 1) := by decide +kernel
theorem dX4_begin_12 : decode cX4_begin 12 = .ok (.putfield 34, 3) := by decide +kernel
theorem dX4_begin_15 : decode cX4_begin 15 = .ok (.iconst 0, 1) := by decide +kernel
theorem dX4_begin_16 : decode cX4_begin 16 = .ok (.istore_n 3, 1) := by decide +kernel
theorem dX4_begin_17 : decode cX4_begin 17 = .ok (.iload_n 3, 1) := by decide +kernel
theorem dX4_begin_18 : decode cX4_begin 18 = .ok (.aload_n 1, 1) := by decide +kernel
theorem dX4_begin_19 : decode cX4_begin 19 = .ok (.getfield 38, 3) := by decide +kernel
theorem dX4_begin_2 : decode cX4_begin 2 = .ok (.putfield 27, 3) := by decide +kernel
theorem dX4_begin_22 : decode cX4_begin 22 = .ok (.if_icmp .ge 34, 3) := by decide +kernel
theorem dX4_begin_5 : decode cX4_begin 5 = .ok (.aload_n 0, 1) := by decide +kernel
theorem dX4_begin_56 : decode cX4_begin 56 = .ok (.iconst 0, 1) := by decide +kernel
theorem dX4_begin_57 : decode cX4_begin 57 = .ok (.istore_n 3, 1) := by decide +kernel
theorem dX4_begin_58 : decode cX4_begin 58 = .ok (.iload_n 3, 1) := by decide +kernel
theorem dX4_begin_59 : decode cX4_begin 59 = .ok (.aload_n 1, 1) := by decide +kernel
theorem dX4_begin_6 : decode cX4_begin 6 = .ok (.iconst 0, 1) := by decide +kernel
theorem dX4_begin_60 : decode cX4_begin 60 = .ok (.getfield 38, 3) := by decide +kernel
theorem dX4_begin_63 : decode cX4_begin 63 = .ok (.bipush 10, 2) := by decide +kernel
theorem dX4_begin_65 : decode cX4_begin 65 = .ok (.imul, 1) := by decide +kernel
theorem dX4_begin_66 : decode cX4_begin 66 = .ok (.if_icmp .ge 16, 3) := by decide +kernel
theorem dX4_begin_7 : decode cX4_begin 7 = .ok (.putfield 31, 3) := by decide +kernel
theorem dX4_begin_82 : decode cX4_begin 82 = .ok (.return_, 1) := by decide +kernel
theorem dX4_init_0 : decode cX4_init 0 = .ok (.aload_n 0, 1) := by decide +kernel
theorem dX4_init_1 : decode cX4_init 1 = .ok (.invokespecial 3, 3) := by decide +kernel
theorem dX4_init_12 : decode cX4_init 12 = .ok (.aload_n 0, 1) := by decide +kernel
theorem dX4_init_13 : decode cX4_init 13 = .ok (.bipush 60, 2) := by decide +kernel
theorem dX4_init_15 : decode cX4_init 15 = .ok (.newarray .int, 2) := by decide +kernel
theorem dX4_init_17 : decode cX4_init 17 = .ok (.putfield 15, 3) := by decide +kernel
theorem dX4_init_20 : decode cX4_init 20 = .ok (.aload_n 0, 1) := by decide +kernel
theorem dX4_init_21 : decode cX4_init 21 = .ok (.sipush 600, 3) := by decide +kernel
theorem dX4_init_24 : decode cX4_init 24 = .ok (.newarray .int, 2) := by decide +kernel
theorem dX4_init_26 : decode cX4_init 26 = .ok (.putfield 18, 3) := by decide +kernel
theorem dX4_init_29 : decode cX4_init 29 = .ok (.aload_n 0, 1) := by decide +kernel
theorem dX4_init_30 : decode cX4_init 30 = .ok (.sipush 1200, 3) := by decide +kernel
theorem dX4_init_33 : decode cX4_init 33 = .ok (.newarray .int, 2) := by decide +kernel
theorem dX4_init_35 : decode cX4_init 35 = .ok (.putfield 21, 3) := by decide +kernel
theorem dX4_init_38 : decode cX4_init 38 = .ok (.aload_n 0, 1) := by decide +kernel
theorem dX4_init_39 : decode cX4_init 39 = .ok (.bipush 60, 2) := by decide +kernel
theorem dX4_init_4 : decode cX4_init 4 = .ok (.aload_n 0, 1) := by decide +kernel
theorem dX4_init_41 : decode cX4_init 41 = .ok (.newarray .int, 2) := by decide +kernel
theorem dX4_init_43 : decode cX4_init 43 = .ok (.putfield 24, 3) := by decide +kernel
theorem dX4_init_46 : decode cX4_init 46 = .ok (.return_, 1) := by decide +kernel
theorem dX4_init_5 : decode cX4_init 5 = .ok (.bipush 60, 2) := by decide +kernel
theorem dX4_init_7 : decode cX4_init 7 = .ok (.newarray .int, 2) := by decide +kernel
theorem dX4_init_9 : decode cX4_init 9 = .ok (.putfield 9, 3) := by decide +kernel
theorem dX5_collect_0 : decode cX5_collect 0 = .ok (.aload_n 0, 1) := by decide +kernel
theorem dX5_collect_1 : decode cX5_collect 1 = .ok (.dup, 1) := by decide +kernel
theorem dX5_collect_12 : decode cX5_collect 12 = .ok (.iadd, 1) := by decide +kernel
theorem dX5_collect_13 : decode cX5_collect 13 = .ok (.putfield 15, 3) := by decide +kernel
theorem dX5_collect_16 : decode cX5_collect 16 = .ok (.iconst 0, 1) := by decide +kernel
theorem dX5_collect_17 : decode cX5_collect 17 = .ok (.istore_n 2, 1) := by decide +kernel
theorem dX5_collect_18 : decode cX5_collect 18 = .ok (.iload_n 2, 1) := by decide +kernel
theorem dX5_collect_19 : decode cX5_collect 19 = .ok (.aload_n 1, 1) := by decide +kernel
theorem dX5_collect_2 : decode cX5_collect 2 = .ok (.getfield 15, 3) := by decide +kernel
theorem dX5_collect_20 : decode cX5_collect 20 = .ok (.getfield 46, 3) := by decide +kernel
theorem dX5_collect_23 : decode cX5_collect 23 = .ok (.if_icmp .ge 69, 3) := by decide +kernel
theorem dX5_collect_5 : decode cX5_collect 5 = .ok (.aload_n 0, 1) := by decide +kernel
theorem dX5_collect_6 : decode cX5_collect 6 = .ok (.getfield 28, 3) := by decide +kernel
theorem dX5_collect_9 : decode cX5_collect 9 = .ok (.invokestatic 99, 3) := by decide +kernel
theorem dX5_collect_92 : decode cX5_collect 92 = .ok (.return_, 1) := by decide +kernel
theorem dX5_fillSources_0 : decode cX5_fillSources 0 = .ok (.iconst 0, 1) := by decide +kernel
theorem dX5_fillSources_1 : decode cX5_fillSources 1 = .ok (.istore 4, 2) := by decide +kernel
theorem dX5_fillSources_12 : decode cX5_fillSources 12 = .ok (.if_icmp .ge 70, 3) := by decide +kernel
theorem dX5_fillSources_3 : decode cX5_fillSources 3 = .ok (.iconst 0, 1) := by decide +kernel
theorem dX5_fillSources_4 : decode cX5_fillSources 4 = .ok (.istore 5, 2) := by decide +kernel
theorem dX5_fillSources_6 : decode cX5_fillSources 6 = .ok (.iload 5, 2) := by decide +kernel
theorem dX5_fillSources_8 : decode cX5_fillSources 8 = .ok (.aload_n 1, 1) := by decide +kernel
theorem dX5_fillSources_82 : decode cX5_fillSources 82 = .ok (.return_, 1) := by decide +kernel
theorem dX5_fillSources_9 : decode cX5_fillSources 9 = .ok (.getfield 46, 3) := by decide +kernel
theorem dX5_followOthers_0 : decode cX5_followOthers 0 = .ok (.iconst 0, 1) := by decide +kernel
theorem dX5_followOthers_1 : decode cX5_followOthers 1 = .ok (.istore_n 2, 1) := by decide +kernel
theorem dX5_followOthers_2 : decode cX5_followOthers 2 = .ok (.iload_n 2, 1) := by decide +kernel
theorem dX5_followOthers_3 : decode cX5_followOthers 3 = .ok (.aload_n 1, 1) := by decide +kernel
theorem dX5_followOthers_4 : decode cX5_followOthers 4 = .ok (.getfield 46, 3) := by decide +kernel
theorem dX5_followOthers_7 : decode cX5_followOthers 7 = .ok (.if_icmp .ge 63, 3) := by decide +kernel
theorem dX5_followOthers_70 : decode cX5_followOthers 70 = .ok (.return_, 1) := by decide +kernel
theorem dX5_goThrough_0 : decode cX5_goThrough 0 = .ok (.aload_n 0, 1) := by decide +kernel
theorem dX5_goThrough_1 : decode cX5_goThrough 1 = .ok (.iconst 0, 1) := by decide +kernel
theorem dX5_goThrough_10 : decode cX5_goThrough 10 = .ok (.aload_n 0, 1) := by decide +kernel
theorem dX5_goThrough_11 : decode cX5_goThrough 11 = .ok (.lconst 0, 1) := by decide +kernel
theorem dX5_goThrough_12 : decode cX5_goThrough 12 = .ok (.putfield 23, 3) := by decide +kernel
theorem dX5_goThrough_15 : decode cX5_goThrough 15 = .ok (.iload_n 3, 1) := by decide +kernel
theorem dX5_goThrough_16 : decode cX5_goThrough 16 = .ok (.bipush 6, 2) := by decide +kernel
theorem dX5_goThrough_18 : decode cX5_goThrough 18 = .ok (.if_icmp .le 12, 3) := by decide +kernel
theorem dX5_goThrough_2 : decode cX5_goThrough 2 = .ok (.putfield 15, 3) := by decide +kernel
theorem dX5_goThrough_30 : decode cX5_goThrough 30 = .ok (.iconst 1, 1) := by decide +kernel
theorem dX5_goThrough_31 : decode cX5_goThrough 31 = .ok (.istore 4, 2) := by decide +kernel
theorem dX5_goThrough_33 : decode cX5_goThrough 33 = .ok (.iload_n 3, 1) := by decide +kernel
theorem dX5_goThrough_34 : decode cX5_goThrough 34 = .ok (.bipush 6, 2) := by decide +kernel
theorem dX5_goThrough_36 : decode cX5_goThrough 36 = .ok (.if_icmp .lt 9, 3) := by decide +kernel
theorem dX5_goThrough_45 : decode cX5_goThrough 45 = .ok (.lconst 1, 1) := by decide +kernel
theorem dX5_goThrough_46 : decode cX5_goThrough 46 = .ok (.iconst 1, 1) := by decide +kernel
theorem dX5_goThrough_47 : decode cX5_goThrough 47 = .ok (.iload_n 3, 1) := by decide +kernel
theorem dX5_goThrough_48 : decode cX5_goThrough 48 = .ok (.ishl, 1) := by decide +kernel
theorem dX5_goThrough_49 : decode cX5_goThrough 49 = .ok (.lshl, 1) := by decide +kernel
theorem dX5_goThrough_5 : decode cX5_goThrough 5 = .ok (.aload_n 0, 1) := by decide +kernel
theorem dX5_goThrough_50 : decode cX5_goThrough 50 = .ok (.lconst 1, 1) := by decide +kernel
theorem dX5_goThrough_51 : decode cX5_goThrough 51 = .ok (.lsub, 1) := by decide +kernel
theorem dX5_goThrough_52 : decode cX5_goThrough 52 = .ok (.lstore 5, 2) := by decide +kernel
theorem dX5_goThrough_54 : decode cX5_goThrough 54 = .ok (.iconst 0, 1) := by decide +kernel
theorem dX5_goThrough_55 : decode cX5_goThrough 55 = .ok (.istore 7, 2) := by decide +kernel
theorem dX5_goThrough_57 : decode cX5_goThrough 57 = .ok (.iload 7, 2) := by decide +kernel
theorem dX5_goThrough_59 : decode cX5_goThrough 59 = .ok (.iload 4, 2) := by decide +kernel
theorem dX5_goThrough_6 : decode cX5_goThrough 6 = .ok (.lconst 0, 1) := by decide +kernel
theorem dX5_goThrough_61 : decode cX5_goThrough 61 = .ok (.if_icmp .ge 33, 3) := by decide +kernel
theorem dX5_goThrough_64 : decode cX5_goThrough 64 = .ok (.aload_n 0, 1) := by decide +kernel
theorem dX5_goThrough_65 : decode cX5_goThrough 65 = .ok (.lload 5, 2) := by decide +kernel
theorem dX5_goThrough_67 : decode cX5_goThrough 67 = .ok (.putfield 28, 3) := by decide +kernel
theorem dX5_goThrough_7 : decode cX5_goThrough 7 = .ok (.putfield 19, 3) := by decide +kernel
theorem dX5_goThrough_70 : decode cX5_goThrough 70 = .ok (.aload_n 0, 1) := by decide +kernel
theorem dX5_goThrough_71 : decode cX5_goThrough 71 = .ok (.aload_n 1, 1) := by decide +kernel
theorem dX5_goThrough_72 : decode cX5_goThrough 72 = .ok (.aload_n 2, 1) := by decide +kernel
theorem dX5_goThrough_73 : decode cX5_goThrough 73 = .ok (.iload 7, 2) := by decide +kernel
theorem dX5_goThrough_75 : decode cX5_goThrough 75 = .ok (.invokevirtual 31, 3) := by decide +kernel
theorem dX5_goThrough_78 : decode cX5_goThrough 78 = .ok (.aload_n 0, 1) := by decide +kernel
theorem dX5_goThrough_79 : decode cX5_goThrough 79 = .ok (.aload_n 1, 1) := by decide +kernel
theorem dX5_goThrough_80 : decode cX5_goThrough 80 = .ok (.invokevirtual 35, 3) := by decide +kernel
theorem dX5_goThrough_83 : decode cX5_goThrough 83 = .ok (.aload_n 0, 1) := by decide +kernel
theorem dX5_goThrough_84 : decode cX5_goThrough 84 = .ok (.aload_n 1, 1) := by decide +kernel
theorem dX5_goThrough_85 : decode cX5_goThrough 85 = .ok (.invokevirtual 39, 3) := by decide +kernel
theorem dX5_goThrough_88 : decode cX5_goThrough 88 = .ok (.iinc 7 1, 3) := by decide +kernel
theorem dX5_goThrough_91 : decode cX5_goThrough 91 = .ok (.goto (-34), 3) := by decide +kernel
theorem dX5_goThrough_94 : decode cX5_goThrough 94 = .ok (.return_, 1) := by decide +kernel
theorem dX5_init_0 : decode cX5_init 0 = .ok (.aload_n 0, 1) := by decide +kernel
theorem dX5_init_1 : decode cX5_init 1 = .ok (.invokespecial 3, 3) := by decide +kernel
theorem dX5_init_12 : decode cX5_init 12 = .ok (.return_, 1) := by decide +kernel
theorem dX5_init_4 : decode cX5_init 4 = .ok (.aload_n 0, 1) := by decide +kernel
theorem dX5_init_5 : decode cX5_init 5 = .ok (.bipush 60, 2) := by decide +kernel
theorem dX5_init_7 : decode cX5_init 7 = .ok (.newarray .long, 2) := by decide +kernel
theorem dX5_init_9 : decode cX5_init 9 = .ok (.putfield 9, 3) := by decide +kernel
theorem dX6_about_0 : decode cX6_about 0 = .ok (.iload_n 1, 1) := by decide +kernel
theorem dX6_about_1 : decode cX6_about 1 = .ok (.tableswitch 117 0 5 #[39, 47, 55, 74, 93, 112], 39) := by decide +kernel
theorem dX6_about_111 : decode cX6_about 111 = .ok (.iconst (-1), 1) := by decide +kernel
theorem dX6_about_112 : decode cX6_about 112 = .ok (.ireturn, 1) := by decide +kernel
theorem dX6_about_113 : decode cX6_about 113 = .ok (.aload_n 0, 1) := by decide +kernel
theorem dX6_about_114 : decode cX6_about 114 = .ok (.invokevirtual 115, 3) := by decide +kernel
theorem dX6_about_117 : decode cX6_about 117 = .ok (.ireturn, 1) := by decide +kernel
theorem dX6_about_118 : decode cX6_about 118 = .ok (.iconst (-1), 1) := by decide +kernel
theorem dX6_about_119 : decode cX6_about 119 = .ok (.ireturn, 1) := by decide +kernel
theorem dX6_about_40 : decode cX6_about 40 = .ok (.aload_n 0, 1) := by decide +kernel
theorem dX6_about_41 : decode cX6_about 41 = .ok (.getfield 23, 3) := by decide +kernel
theorem dX6_about_44 : decode cX6_about 44 = .ok (.getfield 66, 3) := by decide +kernel
theorem dX6_about_47 : decode cX6_about 47 = .ok (.ireturn, 1) := by decide +kernel
theorem dX6_about_48 : decode cX6_about 48 = .ok (.aload_n 0, 1) := by decide +kernel
theorem dX6_about_49 : decode cX6_about 49 = .ok (.getfield 23, 3) := by decide +kernel
theorem dX6_about_52 : decode cX6_about 52 = .ok (.getfield 152, 3) := by decide +kernel
theorem dX6_about_55 : decode cX6_about 55 = .ok (.ireturn, 1) := by decide +kernel
theorem dX6_about_56 : decode cX6_about 56 = .ok (.aload_n 0, 1) := by decide +kernel
theorem dX6_about_57 : decode cX6_about 57 = .ok (.getfield 69, 3) := by decide +kernel
theorem dX6_about_60 : decode cX6_about 60 = .ok (.ifCond .eq 13, 3) := by decide +kernel
theorem dX6_about_73 : decode cX6_about 73 = .ok (.iconst (-1), 1) := by decide +kernel
theorem dX6_about_74 : decode cX6_about 74 = .ok (.ireturn, 1) := by decide +kernel
theorem dX6_about_75 : decode cX6_about 75 = .ok (.aload_n 0, 1) := by decide +kernel
theorem dX6_about_76 : decode cX6_about 76 = .ok (.getfield 69, 3) := by decide +kernel
theorem dX6_about_79 : decode cX6_about 79 = .ok (.ifCond .eq 13, 3) := by decide +kernel
theorem dX6_about_92 : decode cX6_about 92 = .ok (.iconst (-1), 1) := by decide +kernel
theorem dX6_about_93 : decode cX6_about 93 = .ok (.ireturn, 1) := by decide +kernel
theorem dX6_about_94 : decode cX6_about 94 = .ok (.aload_n 0, 1) := by decide +kernel
theorem dX6_about_95 : decode cX6_about 95 = .ok (.getfield 69, 3) := by decide +kernel
theorem dX6_about_98 : decode cX6_about 98 = .ok (.ifCond .eq 13, 3) := by decide +kernel
theorem dX6_addToTape_0 : decode cX6_addToTape 0 = .ok (.bipush 24, 2) := by decide +kernel
theorem dX6_addToTape_11 : decode cX6_addToTape 11 = .ok (.sipush 2000, 3) := by decide +kernel
theorem dX6_addToTape_14 : decode cX6_addToTape 14 = .ok (.if_icmp .ge 32, 3) := by decide +kernel
theorem dX6_addToTape_17 : decode cX6_addToTape 17 = .ok (.aload_n 0, 1) := by decide +kernel
theorem dX6_addToTape_18 : decode cX6_addToTape 18 = .ok (.getfield 9, 3) := by decide +kernel
theorem dX6_addToTape_2 : decode cX6_addToTape 2 = .ok (.istore_n 2, 1) := by decide +kernel
theorem dX6_addToTape_21 : decode cX6_addToTape 21 = .ok (.aload_n 0, 1) := by decide +kernel
theorem dX6_addToTape_22 : decode cX6_addToTape 22 = .ok (.getfield 54, 3) := by decide +kernel
theorem dX6_addToTape_25 : decode cX6_addToTape 25 = .ok (.iload_n 1, 1) := by decide +kernel
theorem dX6_addToTape_26 : decode cX6_addToTape 26 = .ok (.iload_n 2, 1) := by decide +kernel
theorem dX6_addToTape_27 : decode cX6_addToTape 27 = .ok (.iushr, 1) := by decide +kernel
theorem dX6_addToTape_28 : decode cX6_addToTape 28 = .ok (.i2b, 1) := by decide +kernel
theorem dX6_addToTape_29 : decode cX6_addToTape 29 = .ok (.bastore, 1) := by decide +kernel
theorem dX6_addToTape_3 : decode cX6_addToTape 3 = .ok (.iload_n 2, 1) := by decide +kernel
theorem dX6_addToTape_30 : decode cX6_addToTape 30 = .ok (.aload_n 0, 1) := by decide +kernel
theorem dX6_addToTape_31 : decode cX6_addToTape 31 = .ok (.dup, 1) := by decide +kernel
theorem dX6_addToTape_32 : decode cX6_addToTape 32 = .ok (.getfield 54, 3) := by decide +kernel
theorem dX6_addToTape_35 : decode cX6_addToTape 35 = .ok (.iconst 1, 1) := by decide +kernel
theorem dX6_addToTape_36 : decode cX6_addToTape 36 = .ok (.iadd, 1) := by decide +kernel
theorem dX6_addToTape_37 : decode cX6_addToTape 37 = .ok (.putfield 54, 3) := by decide +kernel
theorem dX6_addToTape_4 : decode cX6_addToTape 4 = .ok (.ifCond .lt 42, 3) := by decide +kernel
theorem dX6_addToTape_40 : decode cX6_addToTape 40 = .ok (.iinc 2 (-8), 3) := by decide +kernel
theorem dX6_addToTape_43 : decode cX6_addToTape 43 = .ok (.goto (-40), 3) := by decide +kernel
theorem dX6_addToTape_46 : decode cX6_addToTape 46 = .ok (.return_, 1) := by decide +kernel
theorem dX6_addToTape_7 : decode cX6_addToTape 7 = .ok (.aload_n 0, 1) := by decide +kernel
theorem dX6_addToTape_8 : decode cX6_addToTape 8 = .ok (.getfield 54, 3) := by decide +kernel
theorem dX6_countFree_0 : decode cX6_countFree 0 = .ok (.iconst 0, 1) := by decide +kernel
theorem dX6_countFree_1 : decode cX6_countFree 1 = .ok (.istore_n 1, 1) := by decide +kernel
theorem dX6_countFree_12 : decode cX6_countFree 12 = .ok (.if_icmp .ge 33, 3) := by decide +kernel
theorem dX6_countFree_2 : decode cX6_countFree 2 = .ok (.iconst 0, 1) := by decide +kernel
theorem dX6_countFree_3 : decode cX6_countFree 3 = .ok (.istore_n 2, 1) := by decide +kernel
theorem dX6_countFree_4 : decode cX6_countFree 4 = .ok (.iload_n 2, 1) := by decide +kernel
theorem dX6_countFree_45 : decode cX6_countFree 45 = .ok (.iload_n 1, 1) := by decide +kernel
theorem dX6_countFree_46 : decode cX6_countFree 46 = .ok (.ireturn, 1) := by decide +kernel
theorem dX6_countFree_5 : decode cX6_countFree 5 = .ok (.aload_n 0, 1) := by decide +kernel
theorem dX6_countFree_6 : decode cX6_countFree 6 = .ok (.getfield 23, 3) := by decide +kernel
theorem dX6_countFree_9 : decode cX6_countFree 9 = .ok (.getfield 66, 3) := by decide +kernel
theorem dX6_end_0 : decode cX6_end 0 = .ok (.iload_n 1, 1) := by decide +kernel
theorem dX6_end_1 : decode cX6_end 1 = .ok (.ifCond .lt 11, 3) := by decide +kernel
theorem dX6_end_12 : decode cX6_end 12 = .ok (.iconst (-1), 1) := by decide +kernel
theorem dX6_end_13 : decode cX6_end 13 = .ok (.ireturn, 1) := by decide +kernel
theorem dX6_end_14 : decode cX6_end 14 = .ok (.aload_n 0, 1) := by decide +kernel
theorem dX6_end_15 : decode cX6_end 15 = .ok (.iload_n 1, 1) := by decide +kernel
theorem dX6_end_16 : decode cX6_end 16 = .ok (.putfield 54, 3) := by decide +kernel
theorem dX6_end_19 : decode cX6_end 19 = .ok (.iload_n 1, 1) := by decide +kernel
theorem dX6_end_20 : decode cX6_end 20 = .ok (.ireturn, 1) := by decide +kernel
theorem dX6_end_4 : decode cX6_end 4 = .ok (.iload_n 1, 1) := by decide +kernel
theorem dX6_end_5 : decode cX6_end 5 = .ok (.aload_n 0, 1) := by decide +kernel
theorem dX6_end_6 : decode cX6_end 6 = .ok (.getfield 54, 3) := by decide +kernel
theorem dX6_end_9 : decode cX6_end 9 = .ok (.if_icmp .le 5, 3) := by decide +kernel
theorem dX6_fault_0 : decode cX6_fault 0 = .ok (.iload_n 1, 1) := by decide +kernel
theorem dX6_fault_1 : decode cX6_fault 1 = .ok (.lookupswitch 43 #[(0, 27), (1, 35)], 27) := by decide +kernel
theorem dX6_fault_28 : decode cX6_fault 28 = .ok (.aload_n 0, 1) := by decide +kernel
theorem dX6_fault_29 : decode cX6_fault 29 = .ok (.getfield 16, 3) := by decide +kernel
theorem dX6_fault_32 : decode cX6_fault 32 = .ok (.getfield 76, 3) := by decide +kernel
theorem dX6_fault_35 : decode cX6_fault 35 = .ok (.ireturn, 1) := by decide +kernel
theorem dX6_fault_36 : decode cX6_fault 36 = .ok (.aload_n 0, 1) := by decide +kernel
theorem dX6_fault_37 : decode cX6_fault 37 = .ok (.getfield 16, 3) := by decide +kernel
theorem dX6_fault_40 : decode cX6_fault 40 = .ok (.getfield 79, 3) := by decide +kernel
theorem dX6_fault_43 : decode cX6_fault 43 = .ok (.ireturn, 1) := by decide +kernel
theorem dX6_fault_44 : decode cX6_fault 44 = .ok (.iconst (-1), 1) := by decide +kernel
theorem dX6_fault_45 : decode cX6_fault 45 = .ok (.ireturn, 1) := by decide +kernel
theorem dX6_feed_0 : decode cX6_feed 0 = .ok (.aload_n 0, 1) := by decide +kernel
theorem dX6_feed_1 : decode cX6_feed 1 = .ok (.getfield 54, 3) := by decide +kernel
theorem dX6_feed_10 : decode cX6_feed 10 = .ok (.if_icmp .le 5, 3) := by decide +kernel
theorem dX6_feed_15 : decode cX6_feed 15 = .ok (.aload_n 0, 1) := by decide +kernel
theorem dX6_feed_16 : decode cX6_feed 16 = .ok (.iload_n 1, 1) := by decide +kernel
theorem dX6_feed_17 : decode cX6_feed 17 = .ok (.invokevirtual 58, 3) := by decide +kernel
theorem dX6_feed_20 : decode cX6_feed 20 = .ok (.aload_n 0, 1) := by decide +kernel
theorem dX6_feed_21 : decode cX6_feed 21 = .ok (.iload_n 2, 1) := by decide +kernel
theorem dX6_feed_22 : decode cX6_feed 22 = .ok (.invokevirtual 58, 3) := by decide +kernel
theorem dX6_feed_25 : decode cX6_feed 25 = .ok (.aload_n 0, 1) := by decide +kernel
theorem dX6_feed_26 : decode cX6_feed 26 = .ok (.iload_n 3, 1) := by decide +kernel
theorem dX6_feed_27 : decode cX6_feed 27 = .ok (.invokevirtual 58, 3) := by decide +kernel
theorem dX6_feed_30 : decode cX6_feed 30 = .ok (.aload_n 0, 1) := by decide +kernel
theorem dX6_feed_31 : decode cX6_feed 31 = .ok (.iload 4, 2) := by decide +kernel
theorem dX6_feed_33 : decode cX6_feed 33 = .ok (.invokevirtual 58, 3) := by decide +kernel
theorem dX6_feed_36 : decode cX6_feed 36 = .ok (.aload_n 0, 1) := by decide +kernel
theorem dX6_feed_37 : decode cX6_feed 37 = .ok (.iload 5, 2) := by decide +kernel
theorem dX6_feed_39 : decode cX6_feed 39 = .ok (.invokevirtual 58, 3) := by decide +kernel
theorem dX6_feed_4 : decode cX6_feed 4 = .ok (.bipush 20, 2) := by decide +kernel
theorem dX6_feed_42 : decode cX6_feed 42 = .ok (.aload_n 0, 1) := by decide +kernel
theorem dX6_feed_43 : decode cX6_feed 43 = .ok (.getfield 54, 3) := by decide +kernel
theorem dX6_feed_46 : decode cX6_feed 46 = .ok (.ireturn, 1) := by decide +kernel
theorem dX6_feed_6 : decode cX6_feed 6 = .ok (.iadd, 1) := by decide +kernel
theorem dX6_feed_7 : decode cX6_feed 7 = .ok (.sipush 2000, 3) := by decide +kernel
theorem dX6_flicker_0 : decode cX6_flicker 0 = .ok (.aload_n 0, 1) := by decide +kernel
theorem dX6_flicker_1 : decode cX6_flicker 1 = .ok (.getfield 23, 3) := by decide +kernel
theorem dX6_flicker_26 : decode cX6_flicker 26 = .ok (.iconst (-1), 1) := by decide +kernel
theorem dX6_flicker_27 : decode cX6_flicker 27 = .ok (.ireturn, 1) := by decide +kernel
theorem dX6_flicker_4 : decode cX6_flicker 4 = .ok (.iload_n 1, 1) := by decide +kernel
theorem dX6_flicker_5 : decode cX6_flicker 5 = .ok (.iconst 0, 1) := by decide +kernel
theorem dX6_flicker_6 : decode cX6_flicker 6 = .ok (.invokevirtual 105, 3) := by decide +kernel
theorem dX6_flicker_9 : decode cX6_flicker 9 = .ok (.ifCond .eq 17, 3) := by decide +kernel
theorem dX6_gainsaid_0 : decode cX6_gainsaid 0 = .ok (.aload_n 0, 1) := by decide +kernel
theorem dX6_gainsaid_1 : decode cX6_gainsaid 1 = .ok (.invokevirtual 119, 3) := by decide +kernel
theorem dX6_gainsaid_10 : decode cX6_gainsaid 10 = .ok (.iconst 0, 1) := by decide +kernel
theorem dX6_gainsaid_11 : decode cX6_gainsaid 11 = .ok (.istore_n 1, 1) := by decide +kernel
theorem dX6_gainsaid_12 : decode cX6_gainsaid 12 = .ok (.iload_n 1, 1) := by decide +kernel
theorem dX6_gainsaid_13 : decode cX6_gainsaid 13 = .ok (.aload_n 0, 1) := by decide +kernel
theorem dX6_gainsaid_14 : decode cX6_gainsaid 14 = .ok (.getfield 23, 3) := by decide +kernel
theorem dX6_gainsaid_17 : decode cX6_gainsaid 17 = .ok (.getfield 66, 3) := by decide +kernel
theorem dX6_gainsaid_20 : decode cX6_gainsaid 20 = .ok (.if_icmp .ge 40, 3) := by decide +kernel
theorem dX6_gainsaid_4 : decode cX6_gainsaid 4 = .ok (.ifCond .ne 6, 3) := by decide +kernel
theorem dX6_gainsaid_60 : decode cX6_gainsaid 60 = .ok (.iconst (-1), 1) := by decide +kernel
theorem dX6_gainsaid_61 : decode cX6_gainsaid 61 = .ok (.ireturn, 1) := by decide +kernel
theorem dX6_goThroughWorlds_0 : decode cX6_goThroughWorlds 0 = .ok (.aload_n 0, 1) := by decide +kernel
theorem dX6_goThroughWorlds_1 : decode cX6_goThroughWorlds 1 = .ok (.invokevirtual 115, 3) := by decide +kernel
theorem dX6_goThroughWorlds_13 : decode cX6_goThroughWorlds 13 = .ok (.aload_n 0, 1) := by decide +kernel
theorem dX6_goThroughWorlds_14 : decode cX6_goThroughWorlds 14 = .ok (.getfield 167, 3) := by decide +kernel
theorem dX6_goThroughWorlds_17 : decode cX6_goThroughWorlds 17 = .ok (.ifCond .ne 24, 3) := by decide +kernel
theorem dX6_goThroughWorlds_20 : decode cX6_goThroughWorlds 20 = .ok (.aload_n 0, 1) := by decide +kernel
theorem dX6_goThroughWorlds_21 : decode cX6_goThroughWorlds 21 = .ok (.getfield 43, 3) := by decide +kernel
theorem dX6_goThroughWorlds_24 : decode cX6_goThroughWorlds 24 = .ok (.aload_n 0, 1) := by decide +kernel
theorem dX6_goThroughWorlds_25 : decode cX6_goThroughWorlds 25 = .ok (.getfield 23, 3) := by decide +kernel
theorem dX6_goThroughWorlds_28 : decode cX6_goThroughWorlds 28 = .ok (.aload_n 0, 1) := by decide +kernel
theorem dX6_goThroughWorlds_29 : decode cX6_goThroughWorlds 29 = .ok (.getfield 30, 3) := by decide +kernel
theorem dX6_goThroughWorlds_32 : decode cX6_goThroughWorlds 32 = .ok (.iload_n 1, 1) := by decide +kernel
theorem dX6_goThroughWorlds_33 : decode cX6_goThroughWorlds 33 = .ok (.invokevirtual 179, 3) := by decide +kernel
theorem dX6_goThroughWorlds_36 : decode cX6_goThroughWorlds 36 = .ok (.aload_n 0, 1) := by decide +kernel
theorem dX6_goThroughWorlds_37 : decode cX6_goThroughWorlds 37 = .ok (.iconst 1, 1) := by decide +kernel
theorem dX6_goThroughWorlds_38 : decode cX6_goThroughWorlds 38 = .ok (.putfield 167, 3) := by decide +kernel
theorem dX6_goThroughWorlds_4 : decode cX6_goThroughWorlds 4 = .ok (.istore_n 1, 1) := by decide +kernel
theorem dX6_goThroughWorlds_41 : decode cX6_goThroughWorlds 41 = .ok (.iconst 1, 1) := by decide +kernel
theorem dX6_goThroughWorlds_42 : decode cX6_goThroughWorlds 42 = .ok (.ireturn, 1) := by decide +kernel
theorem dX6_goThroughWorlds_5 : decode cX6_goThroughWorlds 5 = .ok (.iload_n 1, 1) := by decide +kernel
theorem dX6_goThroughWorlds_6 : decode cX6_goThroughWorlds 6 = .ok (.bipush 12, 2) := by decide +kernel
theorem dX6_goThroughWorlds_8 : decode cX6_goThroughWorlds 8 = .ok (.if_icmp .le 5, 3) := by decide +kernel
theorem dX6_init_0 : decode cX6_init 0 = .ok (.aload_n 0, 1) := by decide +kernel
theorem dX6_init_1 : decode cX6_init 1 = .ok (.invokespecial 3, 3) := by decide +kernel
theorem dX6_init_10 : decode cX6_init 10 = .ok (.putfield 9, 3) := by decide +kernel
theorem dX6_init_13 : decode cX6_init 13 = .ok (.aload_n 0, 1) := by decide +kernel
theorem dX6_init_14 : decode cX6_init 14 = .ok (.new 13, 3) := by decide +kernel
theorem dX6_init_17 : decode cX6_init 17 = .ok (.dup, 1) := by decide +kernel
theorem dX6_init_18 : decode cX6_init 18 = .ok (.invokespecial 15, 3) := by decide +kernel
theorem dX6_init_21 : decode cX6_init 21 = .ok (.putfield 16, 3) := by decide +kernel
theorem dX6_init_24 : decode cX6_init 24 = .ok (.aload_n 0, 1) := by decide +kernel
theorem dX6_init_25 : decode cX6_init 25 = .ok (.new 20, 3) := by decide +kernel
theorem dX6_init_28 : decode cX6_init 28 = .ok (.dup, 1) := by decide +kernel
theorem dX6_init_29 : decode cX6_init 29 = .ok (.invokespecial 22, 3) := by decide +kernel
theorem dX6_init_32 : decode cX6_init 32 = .ok (.putfield 23, 3) := by decide +kernel
theorem dX6_init_35 : decode cX6_init 35 = .ok (.aload_n 0, 1) := by decide +kernel
theorem dX6_init_36 : decode cX6_init 36 = .ok (.new 20, 3) := by decide +kernel
theorem dX6_init_39 : decode cX6_init 39 = .ok (.dup, 1) := by decide +kernel
theorem dX6_init_4 : decode cX6_init 4 = .ok (.aload_n 0, 1) := by decide +kernel
theorem dX6_init_40 : decode cX6_init 40 = .ok (.invokespecial 22, 3) := by decide +kernel
theorem dX6_init_43 : decode cX6_init 43 = .ok (.putfield 27, 3) := by decide +kernel
theorem dX6_init_46 : decode cX6_init 46 = .ok (.aload_n 0, 1) := by decide +kernel
theorem dX6_init_47 : decode cX6_init 47 = .ok (.bipush 60, 2) := by decide +kernel
theorem dX6_init_49 : decode cX6_init 49 = .ok (.newarray .int, 2) := by decide +kernel
theorem dX6_init_5 : decode cX6_init 5 = .ok (.sipush 2000, 3) := by decide +kernel
theorem dX6_init_51 : decode cX6_init 51 = .ok (.putfield 30, 3) := by decide +kernel
theorem dX6_init_54 : decode cX6_init 54 = .ok (.aload_n 0, 1) := by decide +kernel
theorem dX6_init_55 : decode cX6_init 55 = .ok (.bipush 60, 2) := by decide +kernel
theorem dX6_init_57 : decode cX6_init 57 = .ok (.newarray .int, 2) := by decide +kernel
theorem dX6_init_59 : decode cX6_init 59 = .ok (.putfield 34, 3) := by decide +kernel
theorem dX6_init_62 : decode cX6_init 62 = .ok (.aload_n 0, 1) := by decide +kernel
theorem dX6_init_63 : decode cX6_init 63 = .ok (.bipush 60, 2) := by decide +kernel
theorem dX6_init_65 : decode cX6_init 65 = .ok (.newarray .int, 2) := by decide +kernel
theorem dX6_init_67 : decode cX6_init 67 = .ok (.putfield 37, 3) := by decide +kernel
theorem dX6_init_70 : decode cX6_init 70 = .ok (.aload_n 0, 1) := by decide +kernel
theorem dX6_init_71 : decode cX6_init 71 = .ok (.new 40, 3) := by decide +kernel
theorem dX6_init_74 : decode cX6_init 74 = .ok (.dup, 1) := by decide +kernel
theorem dX6_init_75 : decode cX6_init 75 = .ok (.invokespecial 42, 3) := by decide +kernel
theorem dX6_init_78 : decode cX6_init 78 = .ok (.putfield 43, 3) := by decide +kernel
theorem dX6_init_8 : decode cX6_init 8 = .ok (.newarray .byte, 2) := by decide +kernel
theorem dX6_init_81 : decode cX6_init 81 = .ok (.aload_n 0, 1) := by decide +kernel
theorem dX6_init_82 : decode cX6_init 82 = .ok (.new 47, 3) := by decide +kernel
theorem dX6_init_85 : decode cX6_init 85 = .ok (.dup, 1) := by decide +kernel
theorem dX6_init_86 : decode cX6_init 86 = .ok (.invokespecial 49, 3) := by decide +kernel
theorem dX6_init_89 : decode cX6_init 89 = .ok (.putfield 50, 3) := by decide +kernel
theorem dX6_init_92 : decode cX6_init 92 = .ok (.return_, 1) := by decide +kernel
theorem dX6_legal_0 : decode cX6_legal 0 = .ok (.aload_n 0, 1) := by decide +kernel
theorem dX6_legal_1 : decode cX6_legal 1 = .ok (.invokevirtual 119, 3) := by decide +kernel
theorem dX6_legal_11 : decode cX6_legal 11 = .ok (.getfield 123, 3) := by decide +kernel
theorem dX6_legal_14 : decode cX6_legal 14 = .ok (.goto 5, 3) := by decide +kernel
theorem dX6_legal_19 : decode cX6_legal 19 = .ok (.ireturn, 1) := by decide +kernel
theorem dX6_legal_4 : decode cX6_legal 4 = .ok (.ifCond .eq 13, 3) := by decide +kernel
theorem dX6_legal_7 : decode cX6_legal 7 = .ok (.aload_n 0, 1) := by decide +kernel
theorem dX6_legal_8 : decode cX6_legal 8 = .ok (.getfield 43, 3) := by decide +kernel
theorem dX6_load_0 : decode cX6_load 0 = .ok (.aload_n 0, 1) := by decide +kernel
theorem dX6_load_1 : decode cX6_load 1 = .ok (.getfield 23, 3) := by decide +kernel
theorem dX6_load_21 : decode cX6_load 21 = .ok (.iconst 0, 1) := by decide +kernel
theorem dX6_load_22 : decode cX6_load 22 = .ok (.ireturn, 1) := by decide +kernel
theorem dX6_load_4 : decode cX6_load 4 = .ok (.iload_n 1, 1) := by decide +kernel
theorem dX6_load_5 : decode cX6_load 5 = .ok (.iconst 3, 1) := by decide +kernel
theorem dX6_load_6 : decode cX6_load 6 = .ok (.invokevirtual 105, 3) := by decide +kernel
theorem dX6_load_9 : decode cX6_load 9 = .ok (.ifCond .eq 12, 3) := by decide +kernel
theorem dX6_named_0 : decode cX6_named 0 = .ok (.lconst 0, 1) := by decide +kernel
theorem dX6_named_1 : decode cX6_named 1 = .ok (.lstore_n 3, 1) := by decide +kernel
theorem dX6_named_11 : decode cX6_named 11 = .ok (.lload_n 1, 1) := by decide +kernel
theorem dX6_named_12 : decode cX6_named 12 = .ok (.iload 5, 2) := by decide +kernel
theorem dX6_named_14 : decode cX6_named 14 = .ok (.lushr, 1) := by decide +kernel
theorem dX6_named_15 : decode cX6_named 15 = .ok (.ldc2_w 82, 3) := by decide +kernel
theorem dX6_named_18 : decode cX6_named 18 = .ok (.land, 1) := by decide +kernel
theorem dX6_named_19 : decode cX6_named 19 = .ok (.lstore 6, 2) := by decide +kernel
theorem dX6_named_2 : decode cX6_named 2 = .ok (.bipush 56, 2) := by decide +kernel
theorem dX6_named_21 : decode cX6_named 21 = .ok (.lload 6, 2) := by decide +kernel
theorem dX6_named_23 : decode cX6_named 23 = .ok (.lconst 0, 1) := by decide +kernel
theorem dX6_named_24 : decode cX6_named 24 = .ok (.lcmp, 1) := by decide +kernel
theorem dX6_named_25 : decode cX6_named 25 = .ok (.ifCond .eq 11, 3) := by decide +kernel
theorem dX6_named_28 : decode cX6_named 28 = .ok (.lload_n 3, 1) := by decide +kernel
theorem dX6_named_29 : decode cX6_named 29 = .ok (.bipush 8, 2) := by decide +kernel
theorem dX6_named_31 : decode cX6_named 31 = .ok (.lshl, 1) := by decide +kernel
theorem dX6_named_32 : decode cX6_named 32 = .ok (.lload 6, 2) := by decide +kernel
theorem dX6_named_34 : decode cX6_named 34 = .ok (.lor, 1) := by decide +kernel
theorem dX6_named_35 : decode cX6_named 35 = .ok (.lstore_n 3, 1) := by decide +kernel
theorem dX6_named_36 : decode cX6_named 36 = .ok (.iinc 5 (-8), 3) := by decide +kernel
theorem dX6_named_39 : decode cX6_named 39 = .ok (.goto (-33), 3) := by decide +kernel
theorem dX6_named_4 : decode cX6_named 4 = .ok (.istore 5, 2) := by decide +kernel
theorem dX6_named_42 : decode cX6_named 42 = .ok (.aload_n 0, 1) := by decide +kernel
theorem dX6_named_43 : decode cX6_named 43 = .ok (.getfield 23, 3) := by decide +kernel
theorem dX6_named_46 : decode cX6_named 46 = .ok (.lload_n 3, 1) := by decide +kernel
theorem dX6_named_47 : decode cX6_named 47 = .ok (.invokevirtual 84, 3) := by decide +kernel
theorem dX6_named_50 : decode cX6_named 50 = .ok (.ireturn, 1) := by decide +kernel
theorem dX6_named_6 : decode cX6_named 6 = .ok (.iload 5, 2) := by decide +kernel
theorem dX6_named_8 : decode cX6_named 8 = .ok (.ifCond .lt 34, 3) := by decide +kernel
theorem dX6_node_0 : decode cX6_node 0 = .ok (.aload_n 0, 1) := by decide +kernel
theorem dX6_node_1 : decode cX6_node 1 = .ok (.getfield 23, 3) := by decide +kernel
theorem dX6_node_11 : decode cX6_node 11 = .ok (.iconst (-1), 1) := by decide +kernel
theorem dX6_node_12 : decode cX6_node 12 = .ok (.ireturn, 1) := by decide +kernel
theorem dX6_node_4 : decode cX6_node 4 = .ok (.iload_n 1, 1) := by decide +kernel
theorem dX6_node_5 : decode cX6_node 5 = .ok (.invokevirtual 88, 3) := by decide +kernel
theorem dX6_node_8 : decode cX6_node 8 = .ok (.ifCond .ne 5, 3) := by decide +kernel
theorem dX6_on_0 : decode cX6_on 0 = .ok (.aload_n 0, 1) := by decide +kernel
theorem dX6_on_1 : decode cX6_on 1 = .ok (.getfield 69, 3) := by decide +kernel
theorem dX6_on_30 : decode cX6_on 30 = .ok (.iconst (-1), 1) := by decide +kernel
theorem dX6_on_31 : decode cX6_on 31 = .ok (.ireturn, 1) := by decide +kernel
theorem dX6_on_4 : decode cX6_on 4 = .ok (.ifCond .eq 26, 3) := by decide +kernel
theorem dX6_put_0 : decode cX6_put 0 = .ok (.aload_n 0, 1) := by decide +kernel
theorem dX6_put_1 : decode cX6_put 1 = .ok (.getfield 69, 3) := by decide +kernel
theorem dX6_put_28 : decode cX6_put 28 = .ok (.iconst 0, 1) := by decide +kernel
theorem dX6_put_29 : decode cX6_put 29 = .ok (.ireturn, 1) := by decide +kernel
theorem dX6_put_4 : decode cX6_put 4 = .ok (.ifCond .eq 24, 3) := by decide +kernel
theorem dX6_read_0 : decode cX6_read 0 = .ok (.aload_n 0, 1) := by decide +kernel
theorem dX6_read_1 : decode cX6_read 1 = .ok (.getfield 54, 3) := by decide +kernel
theorem dX6_read_10 : decode cX6_read 10 = .ok (.aload_n 0, 1) := by decide +kernel
theorem dX6_read_11 : decode cX6_read 11 = .ok (.getfield 16, 3) := by decide +kernel
theorem dX6_read_14 : decode cX6_read 14 = .ok (.aload_n 0, 1) := by decide +kernel
theorem dX6_read_15 : decode cX6_read 15 = .ok (.getfield 27, 3) := by decide +kernel
theorem dX6_read_18 : decode cX6_read 18 = .ok (.aload_n 0, 1) := by decide +kernel
theorem dX6_read_19 : decode cX6_read 19 = .ok (.getfield 9, 3) := by decide +kernel
theorem dX6_read_22 : decode cX6_read 22 = .ok (.iload_n 1, 1) := by decide +kernel
theorem dX6_read_23 : decode cX6_read 23 = .ok (.invokevirtual 62, 3) := by decide +kernel
theorem dX6_read_26 : decode cX6_read 26 = .ok (.ifCond .ne 5, 3) := by decide +kernel
theorem dX6_read_31 : decode cX6_read 31 = .ok (.aload_n 0, 1) := by decide +kernel
theorem dX6_read_32 : decode cX6_read 32 = .ok (.getfield 23, 3) := by decide +kernel
theorem dX6_read_35 : decode cX6_read 35 = .ok (.astore_n 2, 1) := by decide +kernel
theorem dX6_read_36 : decode cX6_read 36 = .ok (.aload_n 0, 1) := by decide +kernel
theorem dX6_read_37 : decode cX6_read 37 = .ok (.aload_n 0, 1) := by decide +kernel
theorem dX6_read_38 : decode cX6_read 38 = .ok (.getfield 27, 3) := by decide +kernel
theorem dX6_read_4 : decode cX6_read 4 = .ok (.istore_n 1, 1) := by decide +kernel
theorem dX6_read_41 : decode cX6_read 41 = .ok (.putfield 23, 3) := by decide +kernel
theorem dX6_read_44 : decode cX6_read 44 = .ok (.aload_n 0, 1) := by decide +kernel
theorem dX6_read_45 : decode cX6_read 45 = .ok (.aload_n 2, 1) := by decide +kernel
theorem dX6_read_46 : decode cX6_read 46 = .ok (.putfield 27, 3) := by decide +kernel
theorem dX6_read_49 : decode cX6_read 49 = .ok (.iconst 0, 1) := by decide +kernel
theorem dX6_read_5 : decode cX6_read 5 = .ok (.aload_n 0, 1) := by decide +kernel
theorem dX6_read_50 : decode cX6_read 50 = .ok (.istore_n 3, 1) := by decide +kernel
theorem dX6_read_51 : decode cX6_read 51 = .ok (.iload_n 3, 1) := by decide +kernel
theorem dX6_read_52 : decode cX6_read 52 = .ok (.aload_n 0, 1) := by decide +kernel
theorem dX6_read_53 : decode cX6_read 53 = .ok (.getfield 23, 3) := by decide +kernel
theorem dX6_read_56 : decode cX6_read 56 = .ok (.getfield 66, 3) := by decide +kernel
theorem dX6_read_59 : decode cX6_read 59 = .ok (.if_icmp .ge 16, 3) := by decide +kernel
theorem dX6_read_6 : decode cX6_read 6 = .ok (.iconst 0, 1) := by decide +kernel
theorem dX6_read_7 : decode cX6_read 7 = .ok (.putfield 54, 3) := by decide +kernel
theorem dX6_read_75 : decode cX6_read 75 = .ok (.aload_n 0, 1) := by decide +kernel
theorem dX6_read_76 : decode cX6_read 76 = .ok (.iconst 0, 1) := by decide +kernel
theorem dX6_read_77 : decode cX6_read 77 = .ok (.putfield 69, 3) := by decide +kernel
theorem dX6_read_80 : decode cX6_read 80 = .ok (.aload_n 0, 1) := by decide +kernel
theorem dX6_read_81 : decode cX6_read 81 = .ok (.invokevirtual 73, 3) := by decide +kernel
theorem dX6_read_84 : decode cX6_read 84 = .ok (.aload_n 0, 1) := by decide +kernel
theorem dX6_read_85 : decode cX6_read 85 = .ok (.getfield 23, 3) := by decide +kernel
theorem dX6_read_88 : decode cX6_read 88 = .ok (.getfield 66, 3) := by decide +kernel
theorem dX6_read_91 : decode cX6_read 91 = .ok (.ireturn, 1) := by decide +kernel
theorem dX6_run_0 : decode cX6_run 0 = .ok (.aload_n 0, 1) := by decide +kernel
theorem dX6_run_1 : decode cX6_run 1 = .ok (.getfield 69, 3) := by decide +kernel
theorem dX6_run_18 : decode cX6_run 18 = .ok (.iconst (-1), 1) := by decide +kernel
theorem dX6_run_19 : decode cX6_run 19 = .ok (.ireturn, 1) := by decide +kernel
theorem dX6_run_4 : decode cX6_run 4 = .ok (.ifCond .eq 14, 3) := by decide +kernel
theorem dX6_set_0 : decode cX6_set 0 = .ok (.aload_n 0, 1) := by decide +kernel
theorem dX6_set_1 : decode cX6_set 1 = .ok (.getfield 23, 3) := by decide +kernel
theorem dX6_set_21 : decode cX6_set 21 = .ok (.iconst 0, 1) := by decide +kernel
theorem dX6_set_22 : decode cX6_set 22 = .ok (.ireturn, 1) := by decide +kernel
theorem dX6_set_4 : decode cX6_set 4 = .ok (.iload_n 1, 1) := by decide +kernel
theorem dX6_set_5 : decode cX6_set 5 = .ok (.iconst 0, 1) := by decide +kernel
theorem dX6_set_6 : decode cX6_set 6 = .ok (.invokevirtual 105, 3) := by decide +kernel
theorem dX6_set_9 : decode cX6_set 9 = .ok (.ifCond .eq 12, 3) := by decide +kernel
theorem dX6_settleValues_0 : decode cX6_settleValues 0 = .ok (.aload_n 0, 1) := by decide +kernel
theorem dX6_settleValues_1 : decode cX6_settleValues 1 = .ok (.getfield 23, 3) := by decide +kernel
theorem dX6_settleValues_11 : decode cX6_settleValues 11 = .ok (.aload_n 0, 1) := by decide +kernel
theorem dX6_settleValues_12 : decode cX6_settleValues 12 = .ok (.iconst 0, 1) := by decide +kernel
theorem dX6_settleValues_13 : decode cX6_settleValues 13 = .ok (.putfield 167, 3) := by decide +kernel
theorem dX6_settleValues_16 : decode cX6_settleValues 16 = .ok (.return_, 1) := by decide +kernel
theorem dX6_settleValues_4 : decode cX6_settleValues 4 = .ok (.aload_n 0, 1) := by decide +kernel
theorem dX6_settleValues_5 : decode cX6_settleValues 5 = .ok (.getfield 30, 3) := by decide +kernel
theorem dX6_settleValues_8 : decode cX6_settleValues 8 = .ok (.invokestatic 164, 3) := by decide +kernel
theorem dX6_sharp_0 : decode cX6_sharp 0 = .ok (.aload_n 0, 1) := by decide +kernel
theorem dX6_sharp_1 : decode cX6_sharp 1 = .ok (.invokevirtual 119, 3) := by decide +kernel
theorem dX6_sharp_10 : decode cX6_sharp 10 = .ok (.aload_n 0, 1) := by decide +kernel
theorem dX6_sharp_11 : decode cX6_sharp 11 = .ok (.getfield 23, 3) := by decide +kernel
theorem dX6_sharp_14 : decode cX6_sharp 14 = .ok (.iload_n 1, 1) := by decide +kernel
theorem dX6_sharp_15 : decode cX6_sharp 15 = .ok (.invokevirtual 88, 3) := by decide +kernel
theorem dX6_sharp_18 : decode cX6_sharp 18 = .ok (.ifCond .eq 14, 3) := by decide +kernel
theorem dX6_sharp_32 : decode cX6_sharp 32 = .ok (.iconst (-1), 1) := by decide +kernel
theorem dX6_sharp_33 : decode cX6_sharp 33 = .ok (.ireturn, 1) := by decide +kernel
theorem dX6_sharp_4 : decode cX6_sharp 4 = .ok (.ifCond .ne 6, 3) := by decide +kernel
theorem dX6_tick_0 : decode cX6_tick 0 = .ok (.iconst 0, 1) := by decide +kernel
theorem dX6_tick_1 : decode cX6_tick 1 = .ok (.istore_n 1, 1) := by decide +kernel
theorem dX6_tick_10 : decode cX6_tick 10 = .ok (.if_icmp .ge 49, 3) := by decide +kernel
theorem dX6_tick_110 : decode cX6_tick 110 = .ok (.aload_n 0, 1) := by decide +kernel
theorem dX6_tick_111 : decode cX6_tick 111 = .ok (.invokevirtual 73, 3) := by decide +kernel
theorem dX6_tick_114 : decode cX6_tick 114 = .ok (.iload_n 1, 1) := by decide +kernel
theorem dX6_tick_115 : decode cX6_tick 115 = .ok (.ireturn, 1) := by decide +kernel
theorem dX6_tick_2 : decode cX6_tick 2 = .ok (.iload_n 1, 1) := by decide +kernel
theorem dX6_tick_3 : decode cX6_tick 3 = .ok (.aload_n 0, 1) := by decide +kernel
theorem dX6_tick_4 : decode cX6_tick 4 = .ok (.getfield 23, 3) := by decide +kernel
theorem dX6_tick_59 : decode cX6_tick 59 = .ok (.iconst 0, 1) := by decide +kernel
theorem dX6_tick_60 : decode cX6_tick 60 = .ok (.istore_n 1, 1) := by decide +kernel
theorem dX6_tick_61 : decode cX6_tick 61 = .ok (.iconst 0, 1) := by decide +kernel
theorem dX6_tick_62 : decode cX6_tick 62 = .ok (.istore_n 2, 1) := by decide +kernel
theorem dX6_tick_63 : decode cX6_tick 63 = .ok (.iload_n 2, 1) := by decide +kernel
theorem dX6_tick_64 : decode cX6_tick 64 = .ok (.aload_n 0, 1) := by decide +kernel
theorem dX6_tick_65 : decode cX6_tick 65 = .ok (.getfield 23, 3) := by decide +kernel
theorem dX6_tick_68 : decode cX6_tick 68 = .ok (.getfield 66, 3) := by decide +kernel
theorem dX6_tick_7 : decode cX6_tick 7 = .ok (.getfield 66, 3) := by decide +kernel
theorem dX6_tick_71 : decode cX6_tick 71 = .ok (.if_icmp .ge 39, 3) := by decide +kernel
theorem dX6_value_0 : decode cX6_value 0 = .ok (.aload_n 0, 1) := by decide +kernel
theorem dX6_value_1 : decode cX6_value 1 = .ok (.getfield 23, 3) := by decide +kernel
theorem dX6_value_20 : decode cX6_value 20 = .ok (.iconst (-1), 1) := by decide +kernel
theorem dX6_value_21 : decode cX6_value 21 = .ok (.ireturn, 1) := by decide +kernel
theorem dX6_value_4 : decode cX6_value 4 = .ok (.iload_n 1, 1) := by decide +kernel
theorem dX6_value_5 : decode cX6_value 5 = .ok (.invokevirtual 88, 3) := by decide +kernel
theorem dX6_value_8 : decode cX6_value 8 = .ok (.ifCond .eq 12, 3) := by decide +kernel
theorem dX6_wave_0 : decode cX6_wave 0 = .ok (.aload_n 0, 1) := by decide +kernel
theorem dX6_wave_1 : decode cX6_wave 1 = .ok (.getfield 69, 3) := by decide +kernel
theorem dX6_wave_30 : decode cX6_wave 30 = .ok (.iconst (-1), 1) := by decide +kernel
theorem dX6_wave_31 : decode cX6_wave 31 = .ok (.ireturn, 1) := by decide +kernel
theorem dX6_wave_4 : decode cX6_wave 4 = .ok (.ifCond .eq 26, 3) := by decide +kernel
theorem dX6_wheel_0 : decode cX6_wheel 0 = .ok (.aload_n 0, 1) := by decide +kernel
theorem dX6_wheel_1 : decode cX6_wheel 1 = .ok (.getfield 50, 3) := by decide +kernel
theorem dX6_wheel_12 : decode cX6_wheel 12 = .ok (.invokevirtual 136, 3) := by decide +kernel
theorem dX6_wheel_15 : decode cX6_wheel 15 = .ok (.aload_n 0, 1) := by decide +kernel
theorem dX6_wheel_16 : decode cX6_wheel 16 = .ok (.iconst 1, 1) := by decide +kernel
theorem dX6_wheel_17 : decode cX6_wheel 17 = .ok (.putfield 69, 3) := by decide +kernel
theorem dX6_wheel_20 : decode cX6_wheel 20 = .ok (.iconst 1, 1) := by decide +kernel
theorem dX6_wheel_21 : decode cX6_wheel 21 = .ok (.ireturn, 1) := by decide +kernel
theorem dX6_wheel_4 : decode cX6_wheel 4 = .ok (.aload_n 0, 1) := by decide +kernel
theorem dX6_wheel_5 : decode cX6_wheel 5 = .ok (.getfield 23, 3) := by decide +kernel
theorem dX6_wheel_8 : decode cX6_wheel 8 = .ok (.aload_n 0, 1) := by decide +kernel
theorem dX6_wheel_9 : decode cX6_wheel 9 = .ok (.getfield 30, 3) := by decide +kernel
theorem dX6_worlds_0 : decode cX6_worlds 0 = .ok (.aload_n 0, 1) := by decide +kernel
theorem dX6_worlds_1 : decode cX6_worlds 1 = .ok (.invokevirtual 115, 3) := by decide +kernel
theorem dX6_worlds_16 : decode cX6_worlds 16 = .ok (.iconst 1, 1) := by decide +kernel
theorem dX6_worlds_17 : decode cX6_worlds 17 = .ok (.iload_n 1, 1) := by decide +kernel
theorem dX6_worlds_18 : decode cX6_worlds 18 = .ok (.ishl, 1) := by decide +kernel
theorem dX6_worlds_19 : decode cX6_worlds 19 = .ok (.ireturn, 1) := by decide +kernel
theorem dX6_worlds_4 : decode cX6_worlds 4 = .ok (.istore_n 1, 1) := by decide +kernel
theorem dX6_worlds_5 : decode cX6_worlds 5 = .ok (.iload_n 1, 1) := by decide +kernel
theorem dX6_worlds_6 : decode cX6_worlds 6 = .ok (.bipush 12, 2) := by decide +kernel
theorem dX6_worlds_8 : decode cX6_worlds 8 = .ok (.if_icmp .le 8, 3) := by decide +kernel
theorem dX7_about_0 : decode cX7_about 0 = .ok (.aload_n 0, 1) := by decide +kernel
theorem dX7_about_1 : decode cX7_about 1 = .ok (.invokevirtual 310, 3) := by decide +kernel
theorem dX7_about_108 : decode cX7_about 108 = .ok (.iconst (-1), 1) := by decide +kernel
theorem dX7_about_109 : decode cX7_about 109 = .ok (.ireturn, 1) := by decide +kernel
theorem dX7_about_110 : decode cX7_about 110 = .ok (.aload_n 0, 1) := by decide +kernel
theorem dX7_about_111 : decode cX7_about 111 = .ok (.getfield 304, 3) := by decide +kernel
theorem dX7_about_114 : decode cX7_about 114 = .ok (.ireturn, 1) := by decide +kernel
theorem dX7_about_115 : decode cX7_about 115 = .ok (.iconst (-1), 1) := by decide +kernel
theorem dX7_about_116 : decode cX7_about 116 = .ok (.ireturn, 1) := by decide +kernel
theorem dX7_about_4 : decode cX7_about 4 = .ok (.iload_n 1, 1) := by decide +kernel
theorem dX7_about_44 : decode cX7_about 44 = .ok (.aload_n 0, 1) := by decide +kernel
theorem dX7_about_45 : decode cX7_about 45 = .ok (.getfield 261, 3) := by decide +kernel
theorem dX7_about_48 : decode cX7_about 48 = .ok (.ireturn, 1) := by decide +kernel
theorem dX7_about_49 : decode cX7_about 49 = .ok (.aload_n 0, 1) := by decide +kernel
theorem dX7_about_5 : decode cX7_about 5 = .ok (.tableswitch 110 0 5 #[39, 44, 49, 65, 89, 105], 39) := by decide +kernel
theorem dX7_about_50 : decode cX7_about 50 = .ok (.getfield 264, 3) := by decide +kernel
theorem dX7_about_53 : decode cX7_about 53 = .ok (.ireturn, 1) := by decide +kernel
theorem dX7_about_54 : decode cX7_about 54 = .ok (.aload_n 0, 1) := by decide +kernel
theorem dX7_about_55 : decode cX7_about 55 = .ok (.getfield 267, 3) := by decide +kernel
theorem dX7_about_58 : decode cX7_about 58 = .ok (.ifCond .eq 10, 3) := by decide +kernel
theorem dX7_about_68 : decode cX7_about 68 = .ok (.iconst (-1), 1) := by decide +kernel
theorem dX7_about_69 : decode cX7_about 69 = .ok (.ireturn, 1) := by decide +kernel
theorem dX7_about_70 : decode cX7_about 70 = .ok (.aload_n 0, 1) := by decide +kernel
theorem dX7_about_71 : decode cX7_about 71 = .ok (.getfield 267, 3) := by decide +kernel
theorem dX7_about_74 : decode cX7_about 74 = .ok (.ifCond .ne 7, 3) := by decide +kernel
theorem dX7_about_77 : decode cX7_about 77 = .ok (.iconst (-1), 1) := by decide +kernel
theorem dX7_about_78 : decode cX7_about 78 = .ok (.goto 15, 3) := by decide +kernel
theorem dX7_about_93 : decode cX7_about 93 = .ok (.ireturn, 1) := by decide +kernel
theorem dX7_about_94 : decode cX7_about 94 = .ok (.aload_n 0, 1) := by decide +kernel
theorem dX7_about_95 : decode cX7_about 95 = .ok (.getfield 267, 3) := by decide +kernel
theorem dX7_about_98 : decode cX7_about 98 = .ok (.ifCond .eq 10, 3) := by decide +kernel
theorem dX7_end_0 : decode cX7_end 0 = .ok (.iload_n 1, 1) := by decide +kernel
theorem dX7_end_1 : decode cX7_end 1 = .ok (.ifCond .lt 11, 3) := by decide +kernel
theorem dX7_end_12 : decode cX7_end 12 = .ok (.iconst (-1), 1) := by decide +kernel
theorem dX7_end_13 : decode cX7_end 13 = .ok (.ireturn, 1) := by decide +kernel
theorem dX7_end_14 : decode cX7_end 14 = .ok (.aload_n 0, 1) := by decide +kernel
theorem dX7_end_15 : decode cX7_end 15 = .ok (.iload_n 1, 1) := by decide +kernel
theorem dX7_end_16 : decode cX7_end 16 = .ok (.putfield 249, 3) := by decide +kernel
theorem dX7_end_19 : decode cX7_end 19 = .ok (.iload_n 1, 1) := by decide +kernel
theorem dX7_end_20 : decode cX7_end 20 = .ok (.ireturn, 1) := by decide +kernel
theorem dX7_end_4 : decode cX7_end 4 = .ok (.iload_n 1, 1) := by decide +kernel
theorem dX7_end_5 : decode cX7_end 5 = .ok (.aload_n 0, 1) := by decide +kernel
theorem dX7_end_6 : decode cX7_end 6 = .ok (.getfield 249, 3) := by decide +kernel
theorem dX7_end_9 : decode cX7_end 9 = .ok (.if_icmp .le 5, 3) := by decide +kernel
theorem dX7_fault_0 : decode cX7_fault 0 = .ok (.iload_n 1, 1) := by decide +kernel
theorem dX7_fault_1 : decode cX7_fault 1 = .ok (.ifCond .ne 10, 3) := by decide +kernel
theorem dX7_fault_11 : decode cX7_fault 11 = .ok (.iload_n 1, 1) := by decide +kernel
theorem dX7_fault_12 : decode cX7_fault 12 = .ok (.iconst 1, 1) := by decide +kernel
theorem dX7_fault_13 : decode cX7_fault 13 = .ok (.if_icmp .ne 10, 3) := by decide +kernel
theorem dX7_fault_16 : decode cX7_fault 16 = .ok (.aload_n 0, 1) := by decide +kernel
theorem dX7_fault_17 : decode cX7_fault 17 = .ok (.getfield 16, 3) := by decide +kernel
theorem dX7_fault_20 : decode cX7_fault 20 = .ok (.goto 4, 3) := by decide +kernel
theorem dX7_fault_23 : decode cX7_fault 23 = .ok (.iconst (-1), 1) := by decide +kernel
theorem dX7_fault_24 : decode cX7_fault 24 = .ok (.ireturn, 1) := by decide +kernel
theorem dX7_fault_4 : decode cX7_fault 4 = .ok (.aload_n 0, 1) := by decide +kernel
theorem dX7_fault_5 : decode cX7_fault 5 = .ok (.getfield 110, 3) := by decide +kernel
theorem dX7_fault_8 : decode cX7_fault 8 = .ok (.goto 16, 3) := by decide +kernel
theorem dX7_feed_0 : decode cX7_feed 0 = .ok (.aload_n 0, 1) := by decide +kernel
theorem dX7_feed_1 : decode cX7_feed 1 = .ok (.getfield 249, 3) := by decide +kernel
theorem dX7_feed_10 : decode cX7_feed 10 = .ok (.if_icmp .le 5, 3) := by decide +kernel
theorem dX7_feed_102 : decode cX7_feed 102 = .ok (.goto (-84), 3) := by decide +kernel
theorem dX7_feed_105 : decode cX7_feed 105 = .ok (.aload_n 0, 1) := by decide +kernel
theorem dX7_feed_106 : decode cX7_feed 106 = .ok (.dup, 1) := by decide +kernel
theorem dX7_feed_107 : decode cX7_feed 107 = .ok (.getfield 249, 3) := by decide +kernel
theorem dX7_feed_110 : decode cX7_feed 110 = .ok (.bipush 20, 2) := by decide +kernel
theorem dX7_feed_112 : decode cX7_feed 112 = .ok (.iadd, 1) := by decide +kernel
theorem dX7_feed_113 : decode cX7_feed 113 = .ok (.putfield 249, 3) := by decide +kernel
theorem dX7_feed_116 : decode cX7_feed 116 = .ok (.aload_n 0, 1) := by decide +kernel
theorem dX7_feed_117 : decode cX7_feed 117 = .ok (.getfield 249, 3) := by decide +kernel
theorem dX7_feed_120 : decode cX7_feed 120 = .ok (.ireturn, 1) := by decide +kernel
theorem dX7_feed_15 : decode cX7_feed 15 = .ok (.iconst 0, 1) := by decide +kernel
theorem dX7_feed_16 : decode cX7_feed 16 = .ok (.istore 6, 2) := by decide +kernel
theorem dX7_feed_18 : decode cX7_feed 18 = .ok (.iload 6, 2) := by decide +kernel
theorem dX7_feed_20 : decode cX7_feed 20 = .ok (.bipush 20, 2) := by decide +kernel
theorem dX7_feed_22 : decode cX7_feed 22 = .ok (.if_icmp .ge 83, 3) := by decide +kernel
theorem dX7_feed_25 : decode cX7_feed 25 = .ok (.iload 6, 2) := by decide +kernel
theorem dX7_feed_27 : decode cX7_feed 27 = .ok (.iconst 4, 1) := by decide +kernel
theorem dX7_feed_28 : decode cX7_feed 28 = .ok (.if_icmp .ge 7, 3) := by decide +kernel
theorem dX7_feed_31 : decode cX7_feed 31 = .ok (.iload_n 1, 1) := by decide +kernel
theorem dX7_feed_32 : decode cX7_feed 32 = .ok (.goto 39, 3) := by decide +kernel
theorem dX7_feed_35 : decode cX7_feed 35 = .ok (.iload 6, 2) := by decide +kernel
theorem dX7_feed_37 : decode cX7_feed 37 = .ok (.bipush 8, 2) := by decide +kernel
theorem dX7_feed_39 : decode cX7_feed 39 = .ok (.if_icmp .ge 7, 3) := by decide +kernel
theorem dX7_feed_4 : decode cX7_feed 4 = .ok (.bipush 20, 2) := by decide +kernel
theorem dX7_feed_42 : decode cX7_feed 42 = .ok (.iload_n 2, 1) := by decide +kernel
theorem dX7_feed_43 : decode cX7_feed 43 = .ok (.goto 28, 3) := by decide +kernel
theorem dX7_feed_46 : decode cX7_feed 46 = .ok (.iload 6, 2) := by decide +kernel
theorem dX7_feed_48 : decode cX7_feed 48 = .ok (.bipush 12, 2) := by decide +kernel
theorem dX7_feed_50 : decode cX7_feed 50 = .ok (.if_icmp .ge 7, 3) := by decide +kernel
theorem dX7_feed_53 : decode cX7_feed 53 = .ok (.iload_n 3, 1) := by decide +kernel
theorem dX7_feed_54 : decode cX7_feed 54 = .ok (.goto 17, 3) := by decide +kernel
theorem dX7_feed_57 : decode cX7_feed 57 = .ok (.iload 6, 2) := by decide +kernel
theorem dX7_feed_59 : decode cX7_feed 59 = .ok (.bipush 16, 2) := by decide +kernel
theorem dX7_feed_6 : decode cX7_feed 6 = .ok (.iadd, 1) := by decide +kernel
theorem dX7_feed_61 : decode cX7_feed 61 = .ok (.if_icmp .ge 8, 3) := by decide +kernel
theorem dX7_feed_64 : decode cX7_feed 64 = .ok (.iload 4, 2) := by decide +kernel
theorem dX7_feed_66 : decode cX7_feed 66 = .ok (.goto 5, 3) := by decide +kernel
theorem dX7_feed_69 : decode cX7_feed 69 = .ok (.iload 5, 2) := by decide +kernel
theorem dX7_feed_7 : decode cX7_feed 7 = .ok (.sipush 2000, 3) := by decide +kernel
theorem dX7_feed_71 : decode cX7_feed 71 = .ok (.istore 7, 2) := by decide +kernel
theorem dX7_feed_73 : decode cX7_feed 73 = .ok (.aload_n 0, 1) := by decide +kernel
theorem dX7_feed_74 : decode cX7_feed 74 = .ok (.getfield 7, 3) := by decide +kernel
theorem dX7_feed_77 : decode cX7_feed 77 = .ok (.aload_n 0, 1) := by decide +kernel
theorem dX7_feed_78 : decode cX7_feed 78 = .ok (.getfield 249, 3) := by decide +kernel
theorem dX7_feed_81 : decode cX7_feed 81 = .ok (.iload 6, 2) := by decide +kernel
theorem dX7_feed_83 : decode cX7_feed 83 = .ok (.iadd, 1) := by decide +kernel
theorem dX7_feed_84 : decode cX7_feed 84 = .ok (.iload 7, 2) := by decide +kernel
theorem dX7_feed_86 : decode cX7_feed 86 = .ok (.bipush 24, 2) := by decide +kernel
theorem dX7_feed_88 : decode cX7_feed 88 = .ok (.bipush 8, 2) := by decide +kernel
theorem dX7_feed_90 : decode cX7_feed 90 = .ok (.iload 6, 2) := by decide +kernel
theorem dX7_feed_92 : decode cX7_feed 92 = .ok (.iconst 3, 1) := by decide +kernel
theorem dX7_feed_93 : decode cX7_feed 93 = .ok (.iand, 1) := by decide +kernel
theorem dX7_feed_94 : decode cX7_feed 94 = .ok (.imul, 1) := by decide +kernel
theorem dX7_feed_95 : decode cX7_feed 95 = .ok (.isub, 1) := by decide +kernel
theorem dX7_feed_96 : decode cX7_feed 96 = .ok (.ishr, 1) := by decide +kernel
theorem dX7_feed_97 : decode cX7_feed 97 = .ok (.i2b, 1) := by decide +kernel
theorem dX7_feed_98 : decode cX7_feed 98 = .ok (.bastore, 1) := by decide +kernel
theorem dX7_feed_99 : decode cX7_feed 99 = .ok (.iinc 6 1, 3) := by decide +kernel
theorem dX7_find_0 : decode cX7_find 0 = .ok (.aload_n 0, 1) := by decide +kernel
theorem dX7_find_1 : decode cX7_find 1 = .ok (.iconst 0, 1) := by decide +kernel
theorem dX7_find_12 : decode cX7_find 12 = .ok (.if_icmp .ge 59, 3) := by decide +kernel
theorem dX7_find_2 : decode cX7_find 2 = .ok (.putfield 304, 3) := by decide +kernel
theorem dX7_find_5 : decode cX7_find 5 = .ok (.iconst 0, 1) := by decide +kernel
theorem dX7_find_6 : decode cX7_find 6 = .ok (.istore_n 1, 1) := by decide +kernel
theorem dX7_find_7 : decode cX7_find 7 = .ok (.iload_n 1, 1) := by decide +kernel
theorem dX7_find_71 : decode cX7_find 71 = .ok (.return_, 1) := by decide +kernel
theorem dX7_find_8 : decode cX7_find 8 = .ok (.aload_n 0, 1) := by decide +kernel
theorem dX7_find_9 : decode cX7_find 9 = .ok (.getfield 261, 3) := by decide +kernel
theorem dX7_flicker_0 : decode cX7_flicker 0 = .ok (.aload_n 0, 1) := by decide +kernel
theorem dX7_flicker_1 : decode cX7_flicker 1 = .ok (.iload_n 1, 1) := by decide +kernel
theorem dX7_flicker_2 : decode cX7_flicker 2 = .ok (.invokevirtual 301, 3) := by decide +kernel
theorem dX7_flicker_30 : decode cX7_flicker 30 = .ok (.iconst (-1), 1) := by decide +kernel
theorem dX7_flicker_31 : decode cX7_flicker 31 = .ok (.ireturn, 1) := by decide +kernel
theorem dX7_flicker_5 : decode cX7_flicker 5 = .ok (.ifCond .eq 25, 3) := by decide +kernel
theorem dX7_follow_0 : decode cX7_follow 0 = .ok (.iconst 0, 1) := by decide +kernel
theorem dX7_follow_1 : decode cX7_follow 1 = .ok (.istore_n 2, 1) := by decide +kernel
theorem dX7_follow_10 : decode cX7_follow 10 = .ok (.iconst 0, 1) := by decide +kernel
theorem dX7_follow_11 : decode cX7_follow 11 = .ok (.istore_n 3, 1) := by decide +kernel
theorem dX7_follow_12 : decode cX7_follow 12 = .ok (.iload_n 3, 1) := by decide +kernel
theorem dX7_follow_13 : decode cX7_follow 13 = .ok (.aload_n 0, 1) := by decide +kernel
theorem dX7_follow_14 : decode cX7_follow 14 = .ok (.getfield 261, 3) := by decide +kernel
theorem dX7_follow_17 : decode cX7_follow 17 = .ok (.if_icmp .ge 72, 3) := by decide +kernel
theorem dX7_follow_2 : decode cX7_follow 2 = .ok (.iload_n 2, 1) := by decide +kernel
theorem dX7_follow_3 : decode cX7_follow 3 = .ok (.aload_n 0, 1) := by decide +kernel
theorem dX7_follow_4 : decode cX7_follow 4 = .ok (.getfield 261, 3) := by decide +kernel
theorem dX7_follow_7 : decode cX7_follow 7 = .ok (.if_icmp .gt 88, 3) := by decide +kernel
theorem dX7_follow_89 : decode cX7_follow 89 = .ok (.iinc 2 1, 3) := by decide +kernel
theorem dX7_follow_92 : decode cX7_follow 92 = .ok (.goto (-90), 3) := by decide +kernel
theorem dX7_follow_95 : decode cX7_follow 95 = .ok (.return_, 1) := by decide +kernel
theorem dX7_gainsaid_0 : decode cX7_gainsaid 0 = .ok (.aload_n 0, 1) := by decide +kernel
theorem dX7_gainsaid_1 : decode cX7_gainsaid 1 = .ok (.invokevirtual 310, 3) := by decide +kernel
theorem dX7_gainsaid_10 : decode cX7_gainsaid 10 = .ok (.if_icmp .le 6, 3) := by decide +kernel
theorem dX7_gainsaid_100 : decode cX7_gainsaid 100 = .ok (.ireturn, 1) := by decide +kernel
theorem dX7_gainsaid_16 : decode cX7_gainsaid 16 = .ok (.iconst (-1), 1) := by decide +kernel
theorem dX7_gainsaid_17 : decode cX7_gainsaid 17 = .ok (.istore_n 1, 1) := by decide +kernel
theorem dX7_gainsaid_18 : decode cX7_gainsaid 18 = .ok (.iconst 0, 1) := by decide +kernel
theorem dX7_gainsaid_19 : decode cX7_gainsaid 19 = .ok (.istore_n 2, 1) := by decide +kernel
theorem dX7_gainsaid_20 : decode cX7_gainsaid 20 = .ok (.iload_n 2, 1) := by decide +kernel
theorem dX7_gainsaid_21 : decode cX7_gainsaid 21 = .ok (.iconst 1, 1) := by decide +kernel
theorem dX7_gainsaid_22 : decode cX7_gainsaid 22 = .ok (.aload_n 0, 1) := by decide +kernel
theorem dX7_gainsaid_23 : decode cX7_gainsaid 23 = .ok (.getfield 304, 3) := by decide +kernel
theorem dX7_gainsaid_26 : decode cX7_gainsaid 26 = .ok (.ishl, 1) := by decide +kernel
theorem dX7_gainsaid_27 : decode cX7_gainsaid 27 = .ok (.if_icmp .ge 72, 3) := by decide +kernel
theorem dX7_gainsaid_30 : decode cX7_gainsaid 30 = .ok (.aload_n 0, 1) := by decide +kernel
theorem dX7_gainsaid_31 : decode cX7_gainsaid 31 = .ok (.iload_n 2, 1) := by decide +kernel
theorem dX7_gainsaid_32 : decode cX7_gainsaid 32 = .ok (.invokevirtual 313, 3) := by decide +kernel
theorem dX7_gainsaid_35 : decode cX7_gainsaid 35 = .ok (.ifCond .ne 6, 3) := by decide +kernel
theorem dX7_gainsaid_4 : decode cX7_gainsaid 4 = .ok (.aload_n 0, 1) := by decide +kernel
theorem dX7_gainsaid_41 : decode cX7_gainsaid 41 = .ok (.iconst 0, 1) := by decide +kernel
theorem dX7_gainsaid_42 : decode cX7_gainsaid 42 = .ok (.istore_n 3, 1) := by decide +kernel
theorem dX7_gainsaid_43 : decode cX7_gainsaid 43 = .ok (.iload_n 3, 1) := by decide +kernel
theorem dX7_gainsaid_44 : decode cX7_gainsaid 44 = .ok (.aload_n 0, 1) := by decide +kernel
theorem dX7_gainsaid_45 : decode cX7_gainsaid 45 = .ok (.getfield 261, 3) := by decide +kernel
theorem dX7_gainsaid_48 : decode cX7_gainsaid 48 = .ok (.if_icmp .ge 45, 3) := by decide +kernel
theorem dX7_gainsaid_5 : decode cX7_gainsaid 5 = .ok (.getfield 304, 3) := by decide +kernel
theorem dX7_gainsaid_8 : decode cX7_gainsaid 8 = .ok (.bipush 12, 2) := by decide +kernel
theorem dX7_gainsaid_93 : decode cX7_gainsaid 93 = .ok (.iinc 2 1, 3) := by decide +kernel
theorem dX7_gainsaid_96 : decode cX7_gainsaid 96 = .ok (.goto (-76), 3) := by decide +kernel
theorem dX7_gainsaid_99 : decode cX7_gainsaid 99 = .ok (.iload_n 1, 1) := by decide +kernel
theorem dX7_goes_0 : decode cX7_goes 0 = .ok (.iconst 0, 1) := by decide +kernel
theorem dX7_goes_1 : decode cX7_goes 1 = .ok (.istore_n 2, 1) := by decide +kernel
theorem dX7_goes_172 : decode cX7_goes 172 = .ok (.iinc 3 1, 3) := by decide +kernel
theorem dX7_goes_175 : decode cX7_goes 175 = .ok (.goto (-111), 3) := by decide +kernel
theorem dX7_goes_178 : decode cX7_goes 178 = .ok (.iload_n 2, 1) := by decide +kernel
theorem dX7_goes_179 : decode cX7_goes 179 = .ok (.ireturn, 1) := by decide +kernel
theorem dX7_goes_2 : decode cX7_goes 2 = .ok (.iload_n 2, 1) := by decide +kernel
theorem dX7_goes_28 : decode cX7_goes 28 = .ok (.iconst 0, 1) := by decide +kernel
theorem dX7_goes_29 : decode cX7_goes 29 = .ok (.istore_n 2, 1) := by decide +kernel
theorem dX7_goes_3 : decode cX7_goes 3 = .ok (.aload_n 0, 1) := by decide +kernel
theorem dX7_goes_30 : decode cX7_goes 30 = .ok (.iload_n 2, 1) := by decide +kernel
theorem dX7_goes_31 : decode cX7_goes 31 = .ok (.aload_n 0, 1) := by decide +kernel
theorem dX7_goes_32 : decode cX7_goes 32 = .ok (.getfield 304, 3) := by decide +kernel
theorem dX7_goes_35 : decode cX7_goes 35 = .ok (.if_icmp .ge 25, 3) := by decide +kernel
theorem dX7_goes_4 : decode cX7_goes 4 = .ok (.getfield 261, 3) := by decide +kernel
theorem dX7_goes_60 : decode cX7_goes 60 = .ok (.iconst 1, 1) := by decide +kernel
theorem dX7_goes_61 : decode cX7_goes 61 = .ok (.istore_n 2, 1) := by decide +kernel
theorem dX7_goes_62 : decode cX7_goes 62 = .ok (.iconst 0, 1) := by decide +kernel
theorem dX7_goes_63 : decode cX7_goes 63 = .ok (.istore_n 3, 1) := by decide +kernel
theorem dX7_goes_64 : decode cX7_goes 64 = .ok (.iload_n 3, 1) := by decide +kernel
theorem dX7_goes_65 : decode cX7_goes 65 = .ok (.aload_n 0, 1) := by decide +kernel
theorem dX7_goes_66 : decode cX7_goes 66 = .ok (.getfield 261, 3) := by decide +kernel
theorem dX7_goes_69 : decode cX7_goes 69 = .ok (.if_icmp .gt 109, 3) := by decide +kernel
theorem dX7_goes_7 : decode cX7_goes 7 = .ok (.if_icmp .ge 21, 3) := by decide +kernel
theorem dX7_goes_72 : decode cX7_goes 72 = .ok (.iload_n 2, 1) := by decide +kernel
theorem dX7_goes_73 : decode cX7_goes 73 = .ok (.ifCond .eq 105, 3) := by decide +kernel
theorem dX7_goes_76 : decode cX7_goes 76 = .ok (.iconst 0, 1) := by decide +kernel
theorem dX7_goes_77 : decode cX7_goes 77 = .ok (.istore 4, 2) := by decide +kernel
theorem dX7_goes_79 : decode cX7_goes 79 = .ok (.iload 4, 2) := by decide +kernel
theorem dX7_goes_81 : decode cX7_goes 81 = .ok (.aload_n 0, 1) := by decide +kernel
theorem dX7_goes_82 : decode cX7_goes 82 = .ok (.getfield 261, 3) := by decide +kernel
theorem dX7_goes_85 : decode cX7_goes 85 = .ok (.if_icmp .ge 87, 3) := by decide +kernel
theorem dX7_init_0 : decode cX7_init 0 = .ok (.aload_n 0, 1) := by decide +kernel
theorem dX7_init_1 : decode cX7_init 1 = .ok (.invokespecial 1, 3) := by decide +kernel
theorem dX7_init_10 : decode cX7_init 10 = .ok (.putfield 7, 3) := by decide +kernel
theorem dX7_init_101 : decode cX7_init 101 = .ok (.aload_n 0, 1) := by decide +kernel
theorem dX7_init_102 : decode cX7_init 102 = .ok (.sipush 1000, 3) := by decide +kernel
theorem dX7_init_105 : decode cX7_init 105 = .ok (.newarray .long, 2) := by decide +kernel
theorem dX7_init_107 : decode cX7_init 107 = .ok (.putfield 50, 3) := by decide +kernel
theorem dX7_init_110 : decode cX7_init 110 = .ok (.aload_n 0, 1) := by decide +kernel
theorem dX7_init_111 : decode cX7_init 111 = .ok (.sipush 1000, 3) := by decide +kernel
theorem dX7_init_114 : decode cX7_init 114 = .ok (.newarray .int, 2) := by decide +kernel
theorem dX7_init_116 : decode cX7_init 116 = .ok (.putfield 53, 3) := by decide +kernel
theorem dX7_init_119 : decode cX7_init 119 = .ok (.aload_n 0, 1) := by decide +kernel
theorem dX7_init_120 : decode cX7_init 120 = .ok (.sipush 1000, 3) := by decide +kernel
theorem dX7_init_123 : decode cX7_init 123 = .ok (.newarray .int, 2) := by decide +kernel
theorem dX7_init_125 : decode cX7_init 125 = .ok (.putfield 56, 3) := by decide +kernel
theorem dX7_init_128 : decode cX7_init 128 = .ok (.aload_n 0, 1) := by decide +kernel
theorem dX7_init_129 : decode cX7_init 129 = .ok (.sipush 200, 3) := by decide +kernel
theorem dX7_init_13 : decode cX7_init 13 = .ok (.aload_n 0, 1) := by decide +kernel
theorem dX7_init_132 : decode cX7_init 132 = .ok (.newarray .long, 2) := by decide +kernel
theorem dX7_init_134 : decode cX7_init 134 = .ok (.putfield 59, 3) := by decide +kernel
theorem dX7_init_137 : decode cX7_init 137 = .ok (.aload_n 0, 1) := by decide +kernel
theorem dX7_init_138 : decode cX7_init 138 = .ok (.sipush 200, 3) := by decide +kernel
theorem dX7_init_14 : decode cX7_init 14 = .ok (.sipush 2000, 3) := by decide +kernel
theorem dX7_init_141 : decode cX7_init 141 = .ok (.newarray .int, 2) := by decide +kernel
theorem dX7_init_143 : decode cX7_init 143 = .ok (.putfield 62, 3) := by decide +kernel
theorem dX7_init_146 : decode cX7_init 146 = .ok (.aload_n 0, 1) := by decide +kernel
theorem dX7_init_147 : decode cX7_init 147 = .ok (.sipush 200, 3) := by decide +kernel
theorem dX7_init_150 : decode cX7_init 150 = .ok (.newarray .boolean, 2) := by decide +kernel
theorem dX7_init_152 : decode cX7_init 152 = .ok (.putfield 65, 3) := by decide +kernel
theorem dX7_init_155 : decode cX7_init 155 = .ok (.aload_n 0, 1) := by decide +kernel
theorem dX7_init_156 : decode cX7_init 156 = .ok (.bipush 60, 2) := by decide +kernel
theorem dX7_init_158 : decode cX7_init 158 = .ok (.newarray .boolean, 2) := by decide +kernel
theorem dX7_init_160 : decode cX7_init 160 = .ok (.putfield 68, 3) := by decide +kernel
theorem dX7_init_163 : decode cX7_init 163 = .ok (.aload_n 0, 1) := by decide +kernel
theorem dX7_init_164 : decode cX7_init 164 = .ok (.bipush 60, 2) := by decide +kernel
theorem dX7_init_166 : decode cX7_init 166 = .ok (.newarray .int, 2) := by decide +kernel
theorem dX7_init_168 : decode cX7_init 168 = .ok (.putfield 71, 3) := by decide +kernel
theorem dX7_init_17 : decode cX7_init 17 = .ok (.newarray .byte, 2) := by decide +kernel
theorem dX7_init_171 : decode cX7_init 171 = .ok (.aload_n 0, 1) := by decide +kernel
theorem dX7_init_172 : decode cX7_init 172 = .ok (.bipush 60, 2) := by decide +kernel
theorem dX7_init_174 : decode cX7_init 174 = .ok (.newarray .int, 2) := by decide +kernel
theorem dX7_init_176 : decode cX7_init 176 = .ok (.putfield 74, 3) := by decide +kernel
theorem dX7_init_179 : decode cX7_init 179 = .ok (.aload_n 0, 1) := by decide +kernel
theorem dX7_init_180 : decode cX7_init 180 = .ok (.bipush 60, 2) := by decide +kernel
theorem dX7_init_182 : decode cX7_init 182 = .ok (.newarray .int, 2) := by decide +kernel
theorem dX7_init_184 : decode cX7_init 184 = .ok (.putfield 77, 3) := by decide +kernel
theorem dX7_init_187 : decode cX7_init 187 = .ok (.aload_n 0, 1) := by decide +kernel
theorem dX7_init_188 : decode cX7_init 188 = .ok (.bipush 60, 2) := by decide +kernel
theorem dX7_init_19 : decode cX7_init 19 = .ok (.putfield 13, 3) := by decide +kernel
theorem dX7_init_190 : decode cX7_init 190 = .ok (.newarray .int, 2) := by decide +kernel
theorem dX7_init_192 : decode cX7_init 192 = .ok (.putfield 80, 3) := by decide +kernel
theorem dX7_init_195 : decode cX7_init 195 = .ok (.aload_n 0, 1) := by decide +kernel
theorem dX7_init_196 : decode cX7_init 196 = .ok (.bipush 60, 2) := by decide +kernel
theorem dX7_init_198 : decode cX7_init 198 = .ok (.newarray .int, 2) := by decide +kernel
theorem dX7_init_200 : decode cX7_init 200 = .ok (.putfield 83, 3) := by decide +kernel
theorem dX7_init_203 : decode cX7_init 203 = .ok (.aload_n 0, 1) := by decide +kernel
theorem dX7_init_204 : decode cX7_init 204 = .ok (.bipush 60, 2) := by decide +kernel
theorem dX7_init_206 : decode cX7_init 206 = .ok (.newarray .int, 2) := by decide +kernel
theorem dX7_init_208 : decode cX7_init 208 = .ok (.putfield 86, 3) := by decide +kernel
theorem dX7_init_211 : decode cX7_init 211 = .ok (.aload_n 0, 1) := by decide +kernel
theorem dX7_init_212 : decode cX7_init 212 = .ok (.bipush 60, 2) := by decide +kernel
theorem dX7_init_214 : decode cX7_init 214 = .ok (.newarray .int, 2) := by decide +kernel
theorem dX7_init_216 : decode cX7_init 216 = .ok (.putfield 89, 3) := by decide +kernel
theorem dX7_init_219 : decode cX7_init 219 = .ok (.aload_n 0, 1) := by decide +kernel
theorem dX7_init_22 : decode cX7_init 22 = .ok (.aload_n 0, 1) := by decide +kernel
theorem dX7_init_220 : decode cX7_init 220 = .ok (.bipush 60, 2) := by decide +kernel
theorem dX7_init_222 : decode cX7_init 222 = .ok (.newarray .int, 2) := by decide +kernel
theorem dX7_init_224 : decode cX7_init 224 = .ok (.putfield 92, 3) := by decide +kernel
theorem dX7_init_227 : decode cX7_init 227 = .ok (.aload_n 0, 1) := by decide +kernel
theorem dX7_init_228 : decode cX7_init 228 = .ok (.sipush 600, 3) := by decide +kernel
theorem dX7_init_23 : decode cX7_init 23 = .ok (.iconst (-1), 1) := by decide +kernel
theorem dX7_init_231 : decode cX7_init 231 = .ok (.newarray .int, 2) := by decide +kernel
theorem dX7_init_233 : decode cX7_init 233 = .ok (.putfield 95, 3) := by decide +kernel
theorem dX7_init_236 : decode cX7_init 236 = .ok (.aload_n 0, 1) := by decide +kernel
theorem dX7_init_237 : decode cX7_init 237 = .ok (.sipush 1200, 3) := by decide +kernel
theorem dX7_init_24 : decode cX7_init 24 = .ok (.putfield 16, 3) := by decide +kernel
theorem dX7_init_240 : decode cX7_init 240 = .ok (.newarray .int, 2) := by decide +kernel
theorem dX7_init_242 : decode cX7_init 242 = .ok (.putfield 98, 3) := by decide +kernel
theorem dX7_init_245 : decode cX7_init 245 = .ok (.aload_n 0, 1) := by decide +kernel
theorem dX7_init_246 : decode cX7_init 246 = .ok (.bipush 60, 2) := by decide +kernel
theorem dX7_init_248 : decode cX7_init 248 = .ok (.newarray .int, 2) := by decide +kernel
theorem dX7_init_250 : decode cX7_init 250 = .ok (.putfield 101, 3) := by decide +kernel
theorem dX7_init_253 : decode cX7_init 253 = .ok (.aload_n 0, 1) := by decide +kernel
theorem dX7_init_254 : decode cX7_init 254 = .ok (.bipush 60, 2) := by decide +kernel
theorem dX7_init_256 : decode cX7_init 256 = .ok (.newarray .boolean, 2) := by decide +kernel
theorem dX7_init_258 : decode cX7_init 258 = .ok (.putfield 104, 3) := by decide +kernel
theorem dX7_init_261 : decode cX7_init 261 = .ok (.return_, 1) := by decide +kernel
theorem dX7_init_27 : decode cX7_init 27 = .ok (.aload_n 0, 1) := by decide +kernel
theorem dX7_init_28 : decode cX7_init 28 = .ok (.bipush 120, 2) := by decide +kernel
theorem dX7_init_30 : decode cX7_init 30 = .ok (.newarray .long, 2) := by decide +kernel
theorem dX7_init_32 : decode cX7_init 32 = .ok (.putfield 20, 3) := by decide +kernel
theorem dX7_init_35 : decode cX7_init 35 = .ok (.aload_n 0, 1) := by decide +kernel
theorem dX7_init_36 : decode cX7_init 36 = .ok (.bipush 120, 2) := by decide +kernel
theorem dX7_init_38 : decode cX7_init 38 = .ok (.newarray .int, 2) := by decide +kernel
theorem dX7_init_4 : decode cX7_init 4 = .ok (.aload_n 0, 1) := by decide +kernel
theorem dX7_init_40 : decode cX7_init 40 = .ok (.putfield 24, 3) := by decide +kernel
theorem dX7_init_43 : decode cX7_init 43 = .ok (.aload_n 0, 1) := by decide +kernel
theorem dX7_init_44 : decode cX7_init 44 = .ok (.bipush 120, 2) := by decide +kernel
theorem dX7_init_46 : decode cX7_init 46 = .ok (.newarray .int, 2) := by decide +kernel
theorem dX7_init_48 : decode cX7_init 48 = .ok (.putfield 28, 3) := by decide +kernel
theorem dX7_init_5 : decode cX7_init 5 = .ok (.sipush 2020, 3) := by decide +kernel
theorem dX7_init_51 : decode cX7_init 51 = .ok (.aload_n 0, 1) := by decide +kernel
theorem dX7_init_52 : decode cX7_init 52 = .ok (.bipush 120, 2) := by decide +kernel
theorem dX7_init_54 : decode cX7_init 54 = .ok (.newarray .int, 2) := by decide +kernel
theorem dX7_init_56 : decode cX7_init 56 = .ok (.putfield 31, 3) := by decide +kernel
theorem dX7_init_59 : decode cX7_init 59 = .ok (.aload_n 0, 1) := by decide +kernel
theorem dX7_init_60 : decode cX7_init 60 = .ok (.bipush 120, 2) := by decide +kernel
theorem dX7_init_62 : decode cX7_init 62 = .ok (.newarray .int, 2) := by decide +kernel
theorem dX7_init_64 : decode cX7_init 64 = .ok (.putfield 34, 3) := by decide +kernel
theorem dX7_init_67 : decode cX7_init 67 = .ok (.aload_n 0, 1) := by decide +kernel
theorem dX7_init_68 : decode cX7_init 68 = .ok (.sipush 1440, 3) := by decide +kernel
theorem dX7_init_71 : decode cX7_init 71 = .ok (.newarray .int, 2) := by decide +kernel
theorem dX7_init_73 : decode cX7_init 73 = .ok (.putfield 37, 3) := by decide +kernel
theorem dX7_init_76 : decode cX7_init 76 = .ok (.aload_n 0, 1) := by decide +kernel
theorem dX7_init_77 : decode cX7_init 77 = .ok (.bipush 120, 2) := by decide +kernel
theorem dX7_init_79 : decode cX7_init 79 = .ok (.newarray .int, 2) := by decide +kernel
theorem dX7_init_8 : decode cX7_init 8 = .ok (.newarray .byte, 2) := by decide +kernel
theorem dX7_init_81 : decode cX7_init 81 = .ok (.putfield 40, 3) := by decide +kernel
theorem dX7_init_84 : decode cX7_init 84 = .ok (.aload_n 0, 1) := by decide +kernel
theorem dX7_init_85 : decode cX7_init 85 = .ok (.bipush 60, 2) := by decide +kernel
theorem dX7_init_87 : decode cX7_init 87 = .ok (.newarray .int, 2) := by decide +kernel
theorem dX7_init_89 : decode cX7_init 89 = .ok (.putfield 43, 3) := by decide +kernel
theorem dX7_init_92 : decode cX7_init 92 = .ok (.aload_n 0, 1) := by decide +kernel
theorem dX7_init_93 : decode cX7_init 93 = .ok (.sipush 720, 3) := by decide +kernel
theorem dX7_init_96 : decode cX7_init 96 = .ok (.newarray .boolean, 2) := by decide +kernel
theorem dX7_init_98 : decode cX7_init 98 = .ok (.putfield 46, 3) := by decide +kernel
theorem dX7_isGood_0 : decode cX7_isGood 0 = .ok (.aload_n 0, 1) := by decide +kernel
theorem dX7_isGood_1 : decode cX7_isGood 1 = .ok (.getfield 110, 3) := by decide +kernel
theorem dX7_isGood_12 : decode cX7_isGood 12 = .ok (.ireturn, 1) := by decide +kernel
theorem dX7_isGood_4 : decode cX7_isGood 4 = .ok (.ifCond .ne 7, 3) := by decide +kernel
theorem dX7_isGood_7 : decode cX7_isGood 7 = .ok (.iconst 1, 1) := by decide +kernel
theorem dX7_isGood_8 : decode cX7_isGood 8 = .ok (.goto 4, 3) := by decide +kernel
theorem dX7_isNode_0 : decode cX7_isNode 0 = .ok (.iload_n 1, 1) := by decide +kernel
theorem dX7_isNode_1 : decode cX7_isNode 1 = .ok (.ifCond .lt 15, 3) := by decide +kernel
theorem dX7_isNode_16 : decode cX7_isNode 16 = .ok (.iconst 0, 1) := by decide +kernel
theorem dX7_isNode_17 : decode cX7_isNode 17 = .ok (.ireturn, 1) := by decide +kernel
theorem dX7_isNode_4 : decode cX7_isNode 4 = .ok (.iload_n 1, 1) := by decide +kernel
theorem dX7_isNode_5 : decode cX7_isNode 5 = .ok (.aload_n 0, 1) := by decide +kernel
theorem dX7_isNode_6 : decode cX7_isNode 6 = .ok (.getfield 261, 3) := by decide +kernel
theorem dX7_isNode_9 : decode cX7_isNode 9 = .ok (.if_icmp .ge 7, 3) := by decide +kernel
theorem dX7_legal_0 : decode cX7_legal 0 = .ok (.aload_n 0, 1) := by decide +kernel
theorem dX7_legal_1 : decode cX7_legal 1 = .ok (.invokevirtual 310, 3) := by decide +kernel
theorem dX7_legal_10 : decode cX7_legal 10 = .ok (.if_icmp .le 6, 3) := by decide +kernel
theorem dX7_legal_16 : decode cX7_legal 16 = .ok (.iconst 0, 1) := by decide +kernel
theorem dX7_legal_17 : decode cX7_legal 17 = .ok (.istore_n 1, 1) := by decide +kernel
theorem dX7_legal_18 : decode cX7_legal 18 = .ok (.iconst 0, 1) := by decide +kernel
theorem dX7_legal_19 : decode cX7_legal 19 = .ok (.istore_n 2, 1) := by decide +kernel
theorem dX7_legal_20 : decode cX7_legal 20 = .ok (.iload_n 2, 1) := by decide +kernel
theorem dX7_legal_21 : decode cX7_legal 21 = .ok (.iconst 1, 1) := by decide +kernel
theorem dX7_legal_22 : decode cX7_legal 22 = .ok (.aload_n 0, 1) := by decide +kernel
theorem dX7_legal_23 : decode cX7_legal 23 = .ok (.getfield 304, 3) := by decide +kernel
theorem dX7_legal_26 : decode cX7_legal 26 = .ok (.ishl, 1) := by decide +kernel
theorem dX7_legal_27 : decode cX7_legal 27 = .ok (.if_icmp .ge 25, 3) := by decide +kernel
theorem dX7_legal_30 : decode cX7_legal 30 = .ok (.iload_n 1, 1) := by decide +kernel
theorem dX7_legal_31 : decode cX7_legal 31 = .ok (.aload_n 0, 1) := by decide +kernel
theorem dX7_legal_32 : decode cX7_legal 32 = .ok (.iload_n 2, 1) := by decide +kernel
theorem dX7_legal_33 : decode cX7_legal 33 = .ok (.invokevirtual 313, 3) := by decide +kernel
theorem dX7_legal_36 : decode cX7_legal 36 = .ok (.ifCond .eq 7, 3) := by decide +kernel
theorem dX7_legal_39 : decode cX7_legal 39 = .ok (.iconst 1, 1) := by decide +kernel
theorem dX7_legal_4 : decode cX7_legal 4 = .ok (.aload_n 0, 1) := by decide +kernel
theorem dX7_legal_40 : decode cX7_legal 40 = .ok (.goto 4, 3) := by decide +kernel
theorem dX7_legal_44 : decode cX7_legal 44 = .ok (.iadd, 1) := by decide +kernel
theorem dX7_legal_45 : decode cX7_legal 45 = .ok (.istore_n 1, 1) := by decide +kernel
theorem dX7_legal_46 : decode cX7_legal 46 = .ok (.iinc 2 1, 3) := by decide +kernel
theorem dX7_legal_49 : decode cX7_legal 49 = .ok (.goto (-29), 3) := by decide +kernel
theorem dX7_legal_5 : decode cX7_legal 5 = .ok (.getfield 304, 3) := by decide +kernel
theorem dX7_legal_52 : decode cX7_legal 52 = .ok (.iload_n 1, 1) := by decide +kernel
theorem dX7_legal_53 : decode cX7_legal 53 = .ok (.ireturn, 1) := by decide +kernel
theorem dX7_legal_8 : decode cX7_legal 8 = .ok (.bipush 12, 2) := by decide +kernel
theorem dX7_levels_0 : decode cX7_levels 0 = .ok (.iconst 0, 1) := by decide +kernel
theorem dX7_levels_1 : decode cX7_levels 1 = .ok (.istore_n 1, 1) := by decide +kernel
theorem dX7_levels_170 : decode cX7_levels 170 = .ok (.iinc 1 1, 3) := by decide +kernel
theorem dX7_levels_173 : decode cX7_levels 173 = .ok (.goto (-140), 3) := by decide +kernel
theorem dX7_levels_176 : decode cX7_levels 176 = .ok (.iconst 0, 1) := by decide +kernel
theorem dX7_levels_177 : decode cX7_levels 177 = .ok (.istore_n 1, 1) := by decide +kernel
theorem dX7_levels_178 : decode cX7_levels 178 = .ok (.iload_n 1, 1) := by decide +kernel
theorem dX7_levels_179 : decode cX7_levels 179 = .ok (.aload_n 0, 1) := by decide +kernel
theorem dX7_levels_180 : decode cX7_levels 180 = .ok (.getfield 185, 3) := by decide +kernel
theorem dX7_levels_183 : decode cX7_levels 183 = .ok (.if_icmp .ge 52, 3) := by decide +kernel
theorem dX7_levels_2 : decode cX7_levels 2 = .ok (.iload_n 1, 1) := by decide +kernel
theorem dX7_levels_235 : decode cX7_levels 235 = .ok (.return_, 1) := by decide +kernel
theorem dX7_levels_3 : decode cX7_levels 3 = .ok (.aload_n 0, 1) := by decide +kernel
theorem dX7_levels_31 : decode cX7_levels 31 = .ok (.iconst 0, 1) := by decide +kernel
theorem dX7_levels_32 : decode cX7_levels 32 = .ok (.istore_n 1, 1) := by decide +kernel
theorem dX7_levels_33 : decode cX7_levels 33 = .ok (.iload_n 1, 1) := by decide +kernel
theorem dX7_levels_34 : decode cX7_levels 34 = .ok (.aload_n 0, 1) := by decide +kernel
theorem dX7_levels_35 : decode cX7_levels 35 = .ok (.getfield 185, 3) := by decide +kernel
theorem dX7_levels_38 : decode cX7_levels 38 = .ok (.if_icmp .gt 138, 3) := by decide +kernel
theorem dX7_levels_4 : decode cX7_levels 4 = .ok (.getfield 185, 3) := by decide +kernel
theorem dX7_levels_41 : decode cX7_levels 41 = .ok (.iconst 0, 1) := by decide +kernel
theorem dX7_levels_42 : decode cX7_levels 42 = .ok (.istore_n 2, 1) := by decide +kernel
theorem dX7_levels_43 : decode cX7_levels 43 = .ok (.iload_n 2, 1) := by decide +kernel
theorem dX7_levels_44 : decode cX7_levels 44 = .ok (.aload_n 0, 1) := by decide +kernel
theorem dX7_levels_45 : decode cX7_levels 45 = .ok (.getfield 185, 3) := by decide +kernel
theorem dX7_levels_48 : decode cX7_levels 48 = .ok (.if_icmp .ge 122, 3) := by decide +kernel
theorem dX7_levels_7 : decode cX7_levels 7 = .ok (.if_icmp .ge 24, 3) := by decide +kernel
theorem dX7_load_0 : decode cX7_load 0 = .ok (.aload_n 0, 1) := by decide +kernel
theorem dX7_load_1 : decode cX7_load 1 = .ok (.iload_n 1, 1) := by decide +kernel
theorem dX7_load_2 : decode cX7_load 2 = .ok (.invokevirtual 301, 3) := by decide +kernel
theorem dX7_load_26 : decode cX7_load 26 = .ok (.iconst 0, 1) := by decide +kernel
theorem dX7_load_27 : decode cX7_load 27 = .ok (.ireturn, 1) := by decide +kernel
theorem dX7_load_5 : decode cX7_load 5 = .ok (.ifCond .eq 21, 3) := by decide +kernel
theorem dX7_named_0 : decode cX7_named 0 = .ok (.lload_n 1, 1) := by decide +kernel
theorem dX7_named_1 : decode cX7_named 1 = .ok (.invokestatic 297, 3) := by decide +kernel
theorem dX7_named_10 : decode cX7_named 10 = .ok (.aload_n 0, 1) := by decide +kernel
theorem dX7_named_11 : decode cX7_named 11 = .ok (.getfield 261, 3) := by decide +kernel
theorem dX7_named_14 : decode cX7_named 14 = .ok (.if_icmp .ge 32, 3) := by decide +kernel
theorem dX7_named_4 : decode cX7_named 4 = .ok (.lstore_n 3, 1) := by decide +kernel
theorem dX7_named_46 : decode cX7_named 46 = .ok (.iconst (-1), 1) := by decide +kernel
theorem dX7_named_47 : decode cX7_named 47 = .ok (.ireturn, 1) := by decide +kernel
theorem dX7_named_5 : decode cX7_named 5 = .ok (.iconst 0, 1) := by decide +kernel
theorem dX7_named_6 : decode cX7_named 6 = .ok (.istore 5, 2) := by decide +kernel
theorem dX7_named_8 : decode cX7_named 8 = .ok (.iload 5, 2) := by decide +kernel
theorem dX7_next_0 : decode cX7_next 0 = .ok (.aload_n 0, 1) := by decide +kernel
theorem dX7_next_1 : decode cX7_next 1 = .ok (.aload_n 0, 1) := by decide +kernel
theorem dX7_next_101 : decode cX7_next 101 = .ok (.aload_n 0, 1) := by decide +kernel
theorem dX7_next_102 : decode cX7_next 102 = .ok (.aload_n 0, 1) := by decide +kernel
theorem dX7_next_103 : decode cX7_next 103 = .ok (.getfield 107, 3) := by decide +kernel
theorem dX7_next_106 : decode cX7_next 106 = .ok (.putfield 131, 3) := by decide +kernel
theorem dX7_next_109 : decode cX7_next 109 = .ok (.goto 315, 3) := by decide +kernel
theorem dX7_next_12 : decode cX7_next 12 = .ok (.aload_n 0, 1) := by decide +kernel
theorem dX7_next_13 : decode cX7_next 13 = .ok (.getfield 107, 3) := by decide +kernel
theorem dX7_next_16 : decode cX7_next 16 = .ok (.if_icmp .ge 42, 3) := by decide +kernel
theorem dX7_next_2 : decode cX7_next 2 = .ok (.getfield 131, 3) := by decide +kernel
theorem dX7_next_424 : decode cX7_next 424 = .ok (.return_, 1) := by decide +kernel
theorem dX7_next_5 : decode cX7_next 5 = .ok (.putfield 134, 3) := by decide +kernel
theorem dX7_next_58 : decode cX7_next 58 = .ok (.aload_n 0, 1) := by decide +kernel
theorem dX7_next_59 : decode cX7_next 59 = .ok (.aload_n 0, 1) := by decide +kernel
theorem dX7_next_60 : decode cX7_next 60 = .ok (.getfield 134, 3) := by decide +kernel
theorem dX7_next_63 : decode cX7_next 63 = .ok (.invokevirtual 137, 3) := by decide +kernel
theorem dX7_next_66 : decode cX7_next 66 = .ok (.istore_n 1, 1) := by decide +kernel
theorem dX7_next_67 : decode cX7_next 67 = .ok (.aload_n 0, 1) := by decide +kernel
theorem dX7_next_68 : decode cX7_next 68 = .ok (.aload_n 0, 1) := by decide +kernel
theorem dX7_next_69 : decode cX7_next 69 = .ok (.getfield 134, 3) := by decide +kernel
theorem dX7_next_72 : decode cX7_next 72 = .ok (.iconst 1, 1) := by decide +kernel
theorem dX7_next_73 : decode cX7_next 73 = .ok (.iadd, 1) := by decide +kernel
theorem dX7_next_74 : decode cX7_next 74 = .ok (.putfield 131, 3) := by decide +kernel
theorem dX7_next_77 : decode cX7_next 77 = .ok (.aload_n 0, 1) := by decide +kernel
theorem dX7_next_78 : decode cX7_next 78 = .ok (.getfield 134, 3) := by decide +kernel
theorem dX7_next_8 : decode cX7_next 8 = .ok (.aload_n 0, 1) := by decide +kernel
theorem dX7_next_81 : decode cX7_next 81 = .ok (.aload_n 0, 1) := by decide +kernel
theorem dX7_next_82 : decode cX7_next 82 = .ok (.getfield 107, 3) := by decide +kernel
theorem dX7_next_85 : decode cX7_next 85 = .ok (.if_icmp .lt 27, 3) := by decide +kernel
theorem dX7_next_88 : decode cX7_next 88 = .ok (.aload_n 0, 1) := by decide +kernel
theorem dX7_next_89 : decode cX7_next 89 = .ok (.iconst 0, 1) := by decide +kernel
theorem dX7_next_9 : decode cX7_next 9 = .ok (.getfield 134, 3) := by decide +kernel
theorem dX7_next_90 : decode cX7_next 90 = .ok (.putfield 141, 3) := by decide +kernel
theorem dX7_next_93 : decode cX7_next 93 = .ok (.aload_n 0, 1) := by decide +kernel
theorem dX7_next_94 : decode cX7_next 94 = .ok (.aload_n 0, 1) := by decide +kernel
theorem dX7_next_95 : decode cX7_next 95 = .ok (.getfield 107, 3) := by decide +kernel
theorem dX7_next_98 : decode cX7_next 98 = .ok (.putfield 134, 3) := by decide +kernel
theorem dX7_node_0 : decode cX7_node 0 = .ok (.aload_n 0, 1) := by decide +kernel
theorem dX7_node_1 : decode cX7_node 1 = .ok (.iload_n 1, 1) := by decide +kernel
theorem dX7_node_2 : decode cX7_node 2 = .ok (.invokevirtual 301, 3) := by decide +kernel
theorem dX7_node_5 : decode cX7_node 5 = .ok (.ifCond .ne 5, 3) := by decide +kernel
theorem dX7_node_8 : decode cX7_node 8 = .ok (.iconst (-1), 1) := by decide +kernel
theorem dX7_node_9 : decode cX7_node 9 = .ok (.ireturn, 1) := by decide +kernel
theorem dX7_on_0 : decode cX7_on 0 = .ok (.aload_n 0, 1) := by decide +kernel
theorem dX7_on_1 : decode cX7_on 1 = .ok (.getfield 267, 3) := by decide +kernel
theorem dX7_on_15 : decode cX7_on 15 = .ok (.iconst (-1), 1) := by decide +kernel
theorem dX7_on_16 : decode cX7_on 16 = .ok (.goto 9, 3) := by decide +kernel
theorem dX7_on_25 : decode cX7_on 25 = .ok (.ireturn, 1) := by decide +kernel
theorem dX7_on_4 : decode cX7_on 4 = .ok (.ifCond .eq 11, 3) := by decide +kernel
theorem dX7_plain_0 : decode cX7_plain 0 = .ok (.lconst 0, 1) := by decide +kernel
theorem dX7_plain_1 : decode cX7_plain 1 = .ok (.lstore_n 2, 1) := by decide +kernel
theorem dX7_plain_11 : decode cX7_plain 11 = .ok (.lload_n 0, 1) := by decide +kernel
theorem dX7_plain_12 : decode cX7_plain 12 = .ok (.iload 4, 2) := by decide +kernel
theorem dX7_plain_14 : decode cX7_plain 14 = .ok (.lshr, 1) := by decide +kernel
theorem dX7_plain_15 : decode cX7_plain 15 = .ok (.ldc2_w 295, 3) := by decide +kernel
theorem dX7_plain_18 : decode cX7_plain 18 = .ok (.land, 1) := by decide +kernel
theorem dX7_plain_19 : decode cX7_plain 19 = .ok (.lconst 0, 1) := by decide +kernel
theorem dX7_plain_2 : decode cX7_plain 2 = .ok (.bipush 56, 2) := by decide +kernel
theorem dX7_plain_20 : decode cX7_plain 20 = .ok (.lcmp, 1) := by decide +kernel
theorem dX7_plain_21 : decode cX7_plain 21 = .ok (.ifCond .eq 17, 3) := by decide +kernel
theorem dX7_plain_24 : decode cX7_plain 24 = .ok (.lload_n 2, 1) := by decide +kernel
theorem dX7_plain_25 : decode cX7_plain 25 = .ok (.bipush 8, 2) := by decide +kernel
theorem dX7_plain_27 : decode cX7_plain 27 = .ok (.lshl, 1) := by decide +kernel
theorem dX7_plain_28 : decode cX7_plain 28 = .ok (.lload_n 0, 1) := by decide +kernel
theorem dX7_plain_29 : decode cX7_plain 29 = .ok (.iload 4, 2) := by decide +kernel
theorem dX7_plain_31 : decode cX7_plain 31 = .ok (.lshr, 1) := by decide +kernel
theorem dX7_plain_32 : decode cX7_plain 32 = .ok (.ldc2_w 295, 3) := by decide +kernel
theorem dX7_plain_35 : decode cX7_plain 35 = .ok (.land, 1) := by decide +kernel
theorem dX7_plain_36 : decode cX7_plain 36 = .ok (.lor, 1) := by decide +kernel
theorem dX7_plain_37 : decode cX7_plain 37 = .ok (.lstore_n 2, 1) := by decide +kernel
theorem dX7_plain_38 : decode cX7_plain 38 = .ok (.iinc 4 (-8), 3) := by decide +kernel
theorem dX7_plain_4 : decode cX7_plain 4 = .ok (.istore 4, 2) := by decide +kernel
theorem dX7_plain_41 : decode cX7_plain 41 = .ok (.goto (-35), 3) := by decide +kernel
theorem dX7_plain_44 : decode cX7_plain 44 = .ok (.lload_n 2, 1) := by decide +kernel
theorem dX7_plain_45 : decode cX7_plain 45 = .ok (.lreturn, 1) := by decide +kernel
theorem dX7_plain_6 : decode cX7_plain 6 = .ok (.iload 4, 2) := by decide +kernel
theorem dX7_plain_8 : decode cX7_plain 8 = .ok (.ifCond .lt 36, 3) := by decide +kernel
theorem dX7_put_0 : decode cX7_put 0 = .ok (.aload_n 0, 1) := by decide +kernel
theorem dX7_put_1 : decode cX7_put 1 = .ok (.getfield 267, 3) := by decide +kernel
theorem dX7_put_32 : decode cX7_put 32 = .ok (.iconst 0, 1) := by decide +kernel
theorem dX7_put_33 : decode cX7_put 33 = .ok (.ireturn, 1) := by decide +kernel
theorem dX7_put_4 : decode cX7_put 4 = .ok (.ifCond .eq 28, 3) := by decide +kernel
theorem dX7_read_0 : decode cX7_read 0 = .ok (.aload_n 0, 1) := by decide +kernel
theorem dX7_read_1 : decode cX7_read 1 = .ok (.iconst 0, 1) := by decide +kernel
theorem dX7_read_10 : decode cX7_read 10 = .ok (.aload_n 0, 1) := by decide +kernel
theorem dX7_read_106 : decode cX7_read 106 = .ok (.aload_n 0, 1) := by decide +kernel
theorem dX7_read_107 : decode cX7_read 107 = .ok (.invokevirtual 191, 3) := by decide +kernel
theorem dX7_read_11 : decode cX7_read 11 = .ok (.aload_n 0, 1) := by decide +kernel
theorem dX7_read_110 : decode cX7_read 110 = .ok (.ifCond .eq 7, 3) := by decide +kernel
theorem dX7_read_113 : decode cX7_read 113 = .ok (.aload_n 0, 1) := by decide +kernel
theorem dX7_read_114 : decode cX7_read 114 = .ok (.invokevirtual 255, 3) := by decide +kernel
theorem dX7_read_117 : decode cX7_read 117 = .ok (.aload_n 0, 1) := by decide +kernel
theorem dX7_read_118 : decode cX7_read 118 = .ok (.invokevirtual 191, 3) := by decide +kernel
theorem dX7_read_12 : decode cX7_read 12 = .ok (.getfield 249, 3) := by decide +kernel
theorem dX7_read_121 : decode cX7_read 121 = .ok (.ifCond .eq 7, 3) := by decide +kernel
theorem dX7_read_124 : decode cX7_read 124 = .ok (.aload_n 0, 1) := by decide +kernel
theorem dX7_read_125 : decode cX7_read 125 = .ok (.invokevirtual 258, 3) := by decide +kernel
theorem dX7_read_128 : decode cX7_read 128 = .ok (.aload_n 0, 1) := by decide +kernel
theorem dX7_read_129 : decode cX7_read 129 = .ok (.invokevirtual 191, 3) := by decide +kernel
theorem dX7_read_132 : decode cX7_read 132 = .ok (.ifCond .ne 15, 3) := by decide +kernel
theorem dX7_read_147 : decode cX7_read 147 = .ok (.aload_n 0, 1) := by decide +kernel
theorem dX7_read_148 : decode cX7_read 148 = .ok (.aload_n 0, 1) := by decide +kernel
theorem dX7_read_149 : decode cX7_read 149 = .ok (.getfield 185, 3) := by decide +kernel
theorem dX7_read_15 : decode cX7_read 15 = .ok (.putfield 107, 3) := by decide +kernel
theorem dX7_read_152 : decode cX7_read 152 = .ok (.putfield 261, 3) := by decide +kernel
theorem dX7_read_155 : decode cX7_read 155 = .ok (.aload_n 0, 1) := by decide +kernel
theorem dX7_read_156 : decode cX7_read 156 = .ok (.iconst 0, 1) := by decide +kernel
theorem dX7_read_157 : decode cX7_read 157 = .ok (.putfield 264, 3) := by decide +kernel
theorem dX7_read_160 : decode cX7_read 160 = .ok (.aload_n 0, 1) := by decide +kernel
theorem dX7_read_161 : decode cX7_read 161 = .ok (.iconst 0, 1) := by decide +kernel
theorem dX7_read_162 : decode cX7_read 162 = .ok (.putfield 267, 3) := by decide +kernel
theorem dX7_read_165 : decode cX7_read 165 = .ok (.iconst 0, 1) := by decide +kernel
theorem dX7_read_166 : decode cX7_read 166 = .ok (.istore_n 1, 1) := by decide +kernel
theorem dX7_read_167 : decode cX7_read 167 = .ok (.iload_n 1, 1) := by decide +kernel
theorem dX7_read_168 : decode cX7_read 168 = .ok (.aload_n 0, 1) := by decide +kernel
theorem dX7_read_169 : decode cX7_read 169 = .ok (.getfield 261, 3) := by decide +kernel
theorem dX7_read_172 : decode cX7_read 172 = .ok (.if_icmp .ge 39, 3) := by decide +kernel
theorem dX7_read_18 : decode cX7_read 18 = .ok (.iconst 0, 1) := by decide +kernel
theorem dX7_read_19 : decode cX7_read 19 = .ok (.istore_n 1, 1) := by decide +kernel
theorem dX7_read_2 : decode cX7_read 2 = .ok (.putfield 110, 3) := by decide +kernel
theorem dX7_read_20 : decode cX7_read 20 = .ok (.iload_n 1, 1) := by decide +kernel
theorem dX7_read_21 : decode cX7_read 21 = .ok (.aload_n 0, 1) := by decide +kernel
theorem dX7_read_211 : decode cX7_read 211 = .ok (.aload_n 0, 1) := by decide +kernel
theorem dX7_read_212 : decode cX7_read 212 = .ok (.invokevirtual 274, 3) := by decide +kernel
theorem dX7_read_215 : decode cX7_read 215 = .ok (.aload_n 0, 1) := by decide +kernel
theorem dX7_read_216 : decode cX7_read 216 = .ok (.getfield 261, 3) := by decide +kernel
theorem dX7_read_219 : decode cX7_read 219 = .ok (.ireturn, 1) := by decide +kernel
theorem dX7_read_22 : decode cX7_read 22 = .ok (.getfield 107, 3) := by decide +kernel
theorem dX7_read_25 : decode cX7_read 25 = .ok (.if_icmp .ge 21, 3) := by decide +kernel
theorem dX7_read_46 : decode cX7_read 46 = .ok (.aload_n 0, 1) := by decide +kernel
theorem dX7_read_47 : decode cX7_read 47 = .ok (.iconst 0, 1) := by decide +kernel
theorem dX7_read_48 : decode cX7_read 48 = .ok (.putfield 249, 3) := by decide +kernel
theorem dX7_read_5 : decode cX7_read 5 = .ok (.aload_n 0, 1) := by decide +kernel
theorem dX7_read_51 : decode cX7_read 51 = .ok (.aload_n 0, 1) := by decide +kernel
theorem dX7_read_52 : decode cX7_read 52 = .ok (.iconst 0, 1) := by decide +kernel
theorem dX7_read_53 : decode cX7_read 53 = .ok (.putfield 131, 3) := by decide +kernel
theorem dX7_read_56 : decode cX7_read 56 = .ok (.aload_n 0, 1) := by decide +kernel
theorem dX7_read_57 : decode cX7_read 57 = .ok (.iconst 1, 1) := by decide +kernel
theorem dX7_read_58 : decode cX7_read 58 = .ok (.aload_n 0, 1) := by decide +kernel
theorem dX7_read_59 : decode cX7_read 59 = .ok (.getfield 188, 3) := by decide +kernel
theorem dX7_read_6 : decode cX7_read 6 = .ok (.iconst (-1), 1) := by decide +kernel
theorem dX7_read_62 : decode cX7_read 62 = .ok (.isub, 1) := by decide +kernel
theorem dX7_read_63 : decode cX7_read 63 = .ok (.putfield 188, 3) := by decide +kernel
theorem dX7_read_66 : decode cX7_read 66 = .ok (.aload_n 0, 1) := by decide +kernel
theorem dX7_read_67 : decode cX7_read 67 = .ok (.iconst 0, 1) := by decide +kernel
theorem dX7_read_68 : decode cX7_read 68 = .ok (.putfield 185, 3) := by decide +kernel
theorem dX7_read_7 : decode cX7_read 7 = .ok (.putfield 16, 3) := by decide +kernel
theorem dX7_read_71 : decode cX7_read 71 = .ok (.aload_n 0, 1) := by decide +kernel
theorem dX7_read_72 : decode cX7_read 72 = .ok (.iconst 0, 1) := by decide +kernel
theorem dX7_read_73 : decode cX7_read 73 = .ok (.putfield 198, 3) := by decide +kernel
theorem dX7_read_76 : decode cX7_read 76 = .ok (.aload_n 0, 1) := by decide +kernel
theorem dX7_read_77 : decode cX7_read 77 = .ok (.iconst 0, 1) := by decide +kernel
theorem dX7_read_78 : decode cX7_read 78 = .ok (.putfield 217, 3) := by decide +kernel
theorem dX7_read_81 : decode cX7_read 81 = .ok (.aload_n 0, 1) := by decide +kernel
theorem dX7_read_82 : decode cX7_read 82 = .ok (.invokevirtual 179, 3) := by decide +kernel
theorem dX7_read_85 : decode cX7_read 85 = .ok (.aload_n 0, 1) := by decide +kernel
theorem dX7_read_86 : decode cX7_read 86 = .ok (.invokevirtual 191, 3) := by decide +kernel
theorem dX7_read_89 : decode cX7_read 89 = .ok (.ifCond .eq 17, 3) := by decide +kernel
theorem dX7_read_92 : decode cX7_read 92 = .ok (.aload_n 0, 1) := by decide +kernel
theorem dX7_read_93 : decode cX7_read 93 = .ok (.getfield 141, 3) := by decide +kernel
theorem dX7_read_96 : decode cX7_read 96 = .ok (.ifCond .eq 10, 3) := by decide +kernel
theorem dX7_resolve_0 : decode cX7_resolve 0 = .ok (.iconst 0, 1) := by decide +kernel
theorem dX7_resolve_1 : decode cX7_resolve 1 = .ok (.istore_n 1, 1) := by decide +kernel
theorem dX7_resolve_140 : decode cX7_resolve 140 = .ok (.iconst 0, 1) := by decide +kernel
theorem dX7_resolve_141 : decode cX7_resolve 141 = .ok (.istore_n 1, 1) := by decide +kernel
theorem dX7_resolve_142 : decode cX7_resolve 142 = .ok (.iload_n 1, 1) := by decide +kernel
theorem dX7_resolve_143 : decode cX7_resolve 143 = .ok (.aload_n 0, 1) := by decide +kernel
theorem dX7_resolve_144 : decode cX7_resolve 144 = .ok (.getfield 217, 3) := by decide +kernel
theorem dX7_resolve_147 : decode cX7_resolve 147 = .ok (.if_icmp .ge 132, 3) := by decide +kernel
theorem dX7_resolve_2 : decode cX7_resolve 2 = .ok (.iload_n 1, 1) := by decide +kernel
theorem dX7_resolve_279 : decode cX7_resolve 279 = .ok (.return_, 1) := by decide +kernel
theorem dX7_resolve_3 : decode cX7_resolve 3 = .ok (.aload_n 0, 1) := by decide +kernel
theorem dX7_resolve_4 : decode cX7_resolve 4 = .ok (.getfield 198, 3) := by decide +kernel
theorem dX7_resolve_7 : decode cX7_resolve 7 = .ok (.if_icmp .ge 70, 3) := by decide +kernel
theorem dX7_resolve_77 : decode cX7_resolve 77 = .ok (.aload_n 0, 1) := by decide +kernel
theorem dX7_resolve_78 : decode cX7_resolve 78 = .ok (.invokevirtual 191, 3) := by decide +kernel
theorem dX7_resolve_81 : decode cX7_resolve 81 = .ok (.ifCond .ne 4, 3) := by decide +kernel
theorem dX7_resolve_85 : decode cX7_resolve 85 = .ok (.iconst 0, 1) := by decide +kernel
theorem dX7_resolve_86 : decode cX7_resolve 86 = .ok (.istore_n 1, 1) := by decide +kernel
theorem dX7_resolve_87 : decode cX7_resolve 87 = .ok (.iload_n 1, 1) := by decide +kernel
theorem dX7_resolve_88 : decode cX7_resolve 88 = .ok (.aload_n 0, 1) := by decide +kernel
theorem dX7_resolve_89 : decode cX7_resolve 89 = .ok (.getfield 198, 3) := by decide +kernel
theorem dX7_resolve_92 : decode cX7_resolve 92 = .ok (.if_icmp .ge 48, 3) := by decide +kernel
theorem dX7_run_0 : decode cX7_run 0 = .ok (.aload_n 0, 1) := by decide +kernel
theorem dX7_run_1 : decode cX7_run 1 = .ok (.getfield 267, 3) := by decide +kernel
theorem dX7_run_18 : decode cX7_run 18 = .ok (.iconst (-1), 1) := by decide +kernel
theorem dX7_run_19 : decode cX7_run 19 = .ok (.ireturn, 1) := by decide +kernel
theorem dX7_run_4 : decode cX7_run 4 = .ok (.ifCond .eq 14, 3) := by decide +kernel
theorem dX7_set_0 : decode cX7_set 0 = .ok (.aload_n 0, 1) := by decide +kernel
theorem dX7_set_1 : decode cX7_set 1 = .ok (.iload_n 1, 1) := by decide +kernel
theorem dX7_set_2 : decode cX7_set 2 = .ok (.invokevirtual 301, 3) := by decide +kernel
theorem dX7_set_25 : decode cX7_set 25 = .ok (.iconst 0, 1) := by decide +kernel
theorem dX7_set_26 : decode cX7_set 26 = .ok (.ireturn, 1) := by decide +kernel
theorem dX7_set_5 : decode cX7_set 5 = .ok (.ifCond .eq 20, 3) := by decide +kernel
theorem dX7_settle_0 : decode cX7_settle 0 = .ok (.iconst 0, 1) := by decide +kernel
theorem dX7_settle_1 : decode cX7_settle 1 = .ok (.istore_n 1, 1) := by decide +kernel
theorem dX7_settle_2 : decode cX7_settle 2 = .ok (.iload_n 1, 1) := by decide +kernel
theorem dX7_settle_28 : decode cX7_settle 28 = .ok (.aload_n 0, 1) := by decide +kernel
theorem dX7_settle_29 : decode cX7_settle 29 = .ok (.aload_n 0, 1) := by decide +kernel
theorem dX7_settle_3 : decode cX7_settle 3 = .ok (.aload_n 0, 1) := by decide +kernel
theorem dX7_settle_30 : decode cX7_settle 30 = .ok (.getfield 74, 3) := by decide +kernel
theorem dX7_settle_33 : decode cX7_settle 33 = .ok (.invokevirtual 291, 3) := by decide +kernel
theorem dX7_settle_36 : decode cX7_settle 36 = .ok (.return_, 1) := by decide +kernel
theorem dX7_settle_4 : decode cX7_settle 4 = .ok (.getfield 261, 3) := by decide +kernel
theorem dX7_settle_7 : decode cX7_settle 7 = .ok (.if_icmp .ge 21, 3) := by decide +kernel
theorem dX7_sharp_0 : decode cX7_sharp 0 = .ok (.aload_n 0, 1) := by decide +kernel
theorem dX7_sharp_1 : decode cX7_sharp 1 = .ok (.iload_n 1, 1) := by decide +kernel
theorem dX7_sharp_2 : decode cX7_sharp 2 = .ok (.invokevirtual 301, 3) := by decide +kernel
theorem dX7_sharp_5 : decode cX7_sharp 5 = .ok (.ifCond .ne 5, 3) := by decide +kernel
theorem dX7_sharp_8 : decode cX7_sharp 8 = .ok (.iconst (-1), 1) := by decide +kernel
theorem dX7_sharp_9 : decode cX7_sharp 9 = .ok (.ireturn, 1) := by decide +kernel
theorem dX7_sign_0 : decode cX7_sign 0 = .ok (.iload_n 1, 1) := by decide +kernel
theorem dX7_sign_1 : decode cX7_sign 1 = .ok (.aload_n 0, 1) := by decide +kernel
theorem dX7_sign_2 : decode cX7_sign 2 = .ok (.getfield 107, 3) := by decide +kernel
theorem dX7_sign_21 : decode cX7_sign 21 = .ok (.iconst 0, 1) := by decide +kernel
theorem dX7_sign_22 : decode cX7_sign 22 = .ok (.ireturn, 1) := by decide +kernel
theorem dX7_sign_5 : decode cX7_sign 5 = .ok (.if_icmp .ge 16, 3) := by decide +kernel
theorem dX7_tick_0 : decode cX7_tick 0 = .ok (.iconst 0, 1) := by decide +kernel
theorem dX7_tick_1 : decode cX7_tick 1 = .ok (.istore_n 1, 1) := by decide +kernel
theorem dX7_tick_147 : decode cX7_tick 147 = .ok (.aload_n 0, 1) := by decide +kernel
theorem dX7_tick_148 : decode cX7_tick 148 = .ok (.invokevirtual 274, 3) := by decide +kernel
theorem dX7_tick_151 : decode cX7_tick 151 = .ok (.iload_n 1, 1) := by decide +kernel
theorem dX7_tick_152 : decode cX7_tick 152 = .ok (.ireturn, 1) := by decide +kernel
theorem dX7_tick_2 : decode cX7_tick 2 = .ok (.iconst 0, 1) := by decide +kernel
theorem dX7_tick_3 : decode cX7_tick 3 = .ok (.istore_n 2, 1) := by decide +kernel
theorem dX7_tick_4 : decode cX7_tick 4 = .ok (.iload_n 2, 1) := by decide +kernel
theorem dX7_tick_5 : decode cX7_tick 5 = .ok (.aload_n 0, 1) := by decide +kernel
theorem dX7_tick_6 : decode cX7_tick 6 = .ok (.getfield 261, 3) := by decide +kernel
theorem dX7_tick_9 : decode cX7_tick 9 = .ok (.if_icmp .ge 138, 3) := by decide +kernel
theorem dX7_value_0 : decode cX7_value 0 = .ok (.aload_n 0, 1) := by decide +kernel
theorem dX7_value_1 : decode cX7_value 1 = .ok (.iload_n 1, 1) := by decide +kernel
theorem dX7_value_17 : decode cX7_value 17 = .ok (.iconst (-1), 1) := by decide +kernel
theorem dX7_value_18 : decode cX7_value 18 = .ok (.ireturn, 1) := by decide +kernel
theorem dX7_value_2 : decode cX7_value 2 = .ok (.invokevirtual 301, 3) := by decide +kernel
theorem dX7_value_5 : decode cX7_value 5 = .ok (.ifCond .eq 12, 3) := by decide +kernel
theorem dX7_wave_0 : decode cX7_wave 0 = .ok (.aload_n 0, 1) := by decide +kernel
theorem dX7_wave_1 : decode cX7_wave 1 = .ok (.getfield 267, 3) := by decide +kernel
theorem dX7_wave_35 : decode cX7_wave 35 = .ok (.iconst (-1), 1) := by decide +kernel
theorem dX7_wave_36 : decode cX7_wave 36 = .ok (.goto 14, 3) := by decide +kernel
theorem dX7_wave_4 : decode cX7_wave 4 = .ok (.ifCond .eq 31, 3) := by decide +kernel
theorem dX7_wave_50 : decode cX7_wave 50 = .ok (.ireturn, 1) := by decide +kernel
theorem dX7_wheel_0 : decode cX7_wheel 0 = .ok (.aload_n 0, 1) := by decide +kernel
theorem dX7_wheel_1 : decode cX7_wheel 1 = .ok (.iconst 1, 1) := by decide +kernel
theorem dX7_wheel_10 : decode cX7_wheel 10 = .ok (.aload_n 0, 1) := by decide +kernel
theorem dX7_wheel_11 : decode cX7_wheel 11 = .ok (.iconst 0, 1) := by decide +kernel
theorem dX7_wheel_12 : decode cX7_wheel 12 = .ok (.putfield 319, 3) := by decide +kernel
theorem dX7_wheel_15 : decode cX7_wheel 15 = .ok (.iconst 0, 1) := by decide +kernel
theorem dX7_wheel_16 : decode cX7_wheel 16 = .ok (.istore_n 1, 1) := by decide +kernel
theorem dX7_wheel_17 : decode cX7_wheel 17 = .ok (.iload_n 1, 1) := by decide +kernel
theorem dX7_wheel_18 : decode cX7_wheel 18 = .ok (.aload_n 0, 1) := by decide +kernel
theorem dX7_wheel_19 : decode cX7_wheel 19 = .ok (.getfield 261, 3) := by decide +kernel
theorem dX7_wheel_2 : decode cX7_wheel 2 = .ok (.putfield 267, 3) := by decide +kernel
theorem dX7_wheel_22 : decode cX7_wheel 22 = .ok (.if_icmp .ge 73, 3) := by decide +kernel
theorem dX7_wheel_5 : decode cX7_wheel 5 = .ok (.aload_n 0, 1) := by decide +kernel
theorem dX7_wheel_6 : decode cX7_wheel 6 = .ok (.iconst 0, 1) := by decide +kernel
theorem dX7_wheel_7 : decode cX7_wheel 7 = .ok (.putfield 316, 3) := by decide +kernel
theorem dX7_wheel_95 : decode cX7_wheel 95 = .ok (.iconst 1, 1) := by decide +kernel
theorem dX7_wheel_96 : decode cX7_wheel 96 = .ok (.ireturn, 1) := by decide +kernel
theorem dX7_worlds_0 : decode cX7_worlds 0 = .ok (.aload_n 0, 1) := by decide +kernel
theorem dX7_worlds_1 : decode cX7_worlds 1 = .ok (.invokevirtual 310, 3) := by decide +kernel
theorem dX7_worlds_10 : decode cX7_worlds 10 = .ok (.if_icmp .le 8, 3) := by decide +kernel
theorem dX7_worlds_18 : decode cX7_worlds 18 = .ok (.iconst 1, 1) := by decide +kernel
theorem dX7_worlds_19 : decode cX7_worlds 19 = .ok (.aload_n 0, 1) := by decide +kernel
theorem dX7_worlds_20 : decode cX7_worlds 20 = .ok (.getfield 304, 3) := by decide +kernel
theorem dX7_worlds_23 : decode cX7_worlds 23 = .ok (.ishl, 1) := by decide +kernel
theorem dX7_worlds_24 : decode cX7_worlds 24 = .ok (.ireturn, 1) := by decide +kernel
theorem dX7_worlds_4 : decode cX7_worlds 4 = .ok (.aload_n 0, 1) := by decide +kernel
theorem dX7_worlds_5 : decode cX7_worlds 5 = .ok (.getfield 304, 3) := by decide +kernel
theorem dX7_worlds_8 : decode cX7_worlds 8 = .ok (.bipush 12, 2) := by decide +kernel
