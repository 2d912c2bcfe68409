abbrev c_L_law : ByteArray := code
def y_L_law : MethodName := ⟨R_L, "law", "([I)Z"⟩
theorem d_L_law_0 : decode c_L_law 0 = .ok (.new 8, 3) := by decide +kernel
theorem d_L_law_3 : decode c_L_law 3 = .ok (.dup, 1) := by decide +kernel
theorem d_L_law_4 : decode c_L_law 4 = .ok (.invokespecial 42, 3) := by decide +kernel
theorem d_L_law_7 : decode c_L_law 7 = .ok (.astore_n 1, 1) := by decide +kernel
theorem d_L_law_8 : decode c_L_law 8 = .ok (.new 43, 3) := by decide +kernel
theorem d_L_law_11 : decode c_L_law 11 = .ok (.dup, 1) := by decide +kernel
theorem d_L_law_12 : decode c_L_law 12 = .ok (.invokespecial 45, 3) := by decide +kernel
theorem d_L_law_15 : decode c_L_law 15 = .ok (.astore_n 2, 1) := by decide +kernel
theorem d_L_law_16 : decode c_L_law 16 = .ok (.iconst 1, 1) := by decide +kernel
theorem d_L_law_17 : decode c_L_law 17 = .ok (.newarray .long, 2) := by decide +kernel
theorem d_L_law_19 : decode c_L_law 19 = .ok (.astore_n 3, 1) := by decide +kernel
theorem d_L_law_20 : decode c_L_law 20 = .ok (.iconst 0, 1) := by decide +kernel
theorem d_L_law_21 : decode c_L_law 21 = .ok (.istore 4, 2) := by decide +kernel
theorem d_L_law_23 : decode c_L_law 23 = .ok (.iload 4, 2) := by decide +kernel
theorem d_L_law_25 : decode c_L_law 25 = .ok (.aload_n 0, 1) := by decide +kernel
theorem d_L_law_26 : decode c_L_law 26 = .ok (.arraylength, 1) := by decide +kernel
theorem d_L_law_27 : decode c_L_law 27 = .ok (.iconst 4, 1) := by decide +kernel
theorem d_L_law_28 : decode c_L_law 28 = .ok (.isub, 1) := by decide +kernel
theorem d_L_law_29 : decode c_L_law 29 = .ok (.if_icmp .gt 765, 3) := by decide +kernel
theorem d_L_law_32 : decode c_L_law 32 = .ok (.aload_n 0, 1) := by decide +kernel
theorem d_L_law_33 : decode c_L_law 33 = .ok (.iload 4, 2) := by decide +kernel
theorem d_L_law_35 : decode c_L_law 35 = .ok (.iaload, 1) := by decide +kernel
theorem d_L_law_36 : decode c_L_law 36 = .ok (.bipush 15, 2) := by decide +kernel
theorem d_L_law_38 : decode c_L_law 38 = .ok (.iand, 1) := by decide +kernel
theorem d_L_law_39 : decode c_L_law 39 = .ok (.tableswitch 749 0 12 #[65, 121, 201, 214, 251, 319, 399, 462, 525, 593, 630, 655, 724], 65) := by decide +kernel
theorem d_L_law_104 : decode c_L_law 104 = .ok (.aload_n 1, 1) := by decide +kernel
theorem d_L_law_105 : decode c_L_law 105 = .ok (.aload_n 0, 1) := by decide +kernel
theorem d_L_law_106 : decode c_L_law 106 = .ok (.iload 4, 2) := by decide +kernel
theorem d_L_law_108 : decode c_L_law 108 = .ok (.iconst 1, 1) := by decide +kernel
theorem d_L_law_109 : decode c_L_law 109 = .ok (.iadd, 1) := by decide +kernel
theorem d_L_law_110 : decode c_L_law 110 = .ok (.iaload, 1) := by decide +kernel
theorem d_L_law_111 : decode c_L_law 111 = .ok (.aload_n 3, 1) := by decide +kernel
theorem d_L_law_112 : decode c_L_law 112 = .ok (.invokestatic 46, 3) := by decide +kernel
theorem d_L_law_115 : decode c_L_law 115 = .ok (.istore 5, 2) := by decide +kernel
theorem d_L_law_117 : decode c_L_law 117 = .ok (.aload_n 2, 1) := by decide +kernel
theorem d_L_law_118 : decode c_L_law 118 = .ok (.aload_n 0, 1) := by decide +kernel
theorem d_L_law_119 : decode c_L_law 119 = .ok (.iload 4, 2) := by decide +kernel
theorem d_L_law_121 : decode c_L_law 121 = .ok (.iconst 1, 1) := by decide +kernel
theorem d_L_law_122 : decode c_L_law 122 = .ok (.iadd, 1) := by decide +kernel
theorem d_L_law_123 : decode c_L_law 123 = .ok (.iaload, 1) := by decide +kernel
theorem d_L_law_124 : decode c_L_law 124 = .ok (.invokevirtual 51, 3) := by decide +kernel
theorem d_L_law_127 : decode c_L_law 127 = .ok (.istore 6, 2) := by decide +kernel
theorem d_L_law_129 : decode c_L_law 129 = .ok (.aload_n 2, 1) := by decide +kernel
theorem d_L_law_130 : decode c_L_law 130 = .ok (.invokevirtual 52, 3) := by decide +kernel
theorem d_L_law_133 : decode c_L_law 133 = .ok (.iload 5, 2) := by decide +kernel
theorem d_L_law_135 : decode c_L_law 135 = .ok (.if_icmp .eq 5, 3) := by decide +kernel
theorem d_L_law_138 : decode c_L_law 138 = .ok (.iconst 0, 1) := by decide +kernel
theorem d_L_law_139 : decode c_L_law 139 = .ok (.ireturn, 1) := by decide +kernel
theorem d_L_law_140 : decode c_L_law 140 = .ok (.iload 5, 2) := by decide +kernel
theorem d_L_law_142 : decode c_L_law 142 = .ok (.ifCond .ne 15, 3) := by decide +kernel
theorem d_L_law_145 : decode c_L_law 145 = .ok (.aload_n 3, 1) := by decide +kernel
theorem d_L_law_146 : decode c_L_law 146 = .ok (.iconst 0, 1) := by decide +kernel
theorem d_L_law_147 : decode c_L_law 147 = .ok (.laload, 1) := by decide +kernel
theorem d_L_law_148 : decode c_L_law 148 = .ok (.iload 6, 2) := by decide +kernel
theorem d_L_law_150 : decode c_L_law 150 = .ok (.i2l, 1) := by decide +kernel
theorem d_L_law_151 : decode c_L_law 151 = .ok (.lcmp, 1) := by decide +kernel
theorem d_L_law_152 : decode c_L_law 152 = .ok (.ifCond .eq 5, 3) := by decide +kernel
theorem d_L_law_155 : decode c_L_law 155 = .ok (.iconst 0, 1) := by decide +kernel
theorem d_L_law_156 : decode c_L_law 156 = .ok (.ireturn, 1) := by decide +kernel
theorem d_L_law_157 : decode c_L_law 157 = .ok (.goto 631, 3) := by decide +kernel
theorem d_L_law_160 : decode c_L_law 160 = .ok (.aload_n 1, 1) := by decide +kernel
theorem d_L_law_161 : decode c_L_law 161 = .ok (.aload_n 0, 1) := by decide +kernel
theorem d_L_law_162 : decode c_L_law 162 = .ok (.iload 4, 2) := by decide +kernel
theorem d_L_law_164 : decode c_L_law 164 = .ok (.iconst 1, 1) := by decide +kernel
theorem d_L_law_165 : decode c_L_law 165 = .ok (.iadd, 1) := by decide +kernel
theorem d_L_law_166 : decode c_L_law 166 = .ok (.iaload, 1) := by decide +kernel
theorem d_L_law_167 : decode c_L_law 167 = .ok (.aload_n 0, 1) := by decide +kernel
theorem d_L_law_168 : decode c_L_law 168 = .ok (.iload 4, 2) := by decide +kernel
theorem d_L_law_170 : decode c_L_law 170 = .ok (.iconst 2, 1) := by decide +kernel
theorem d_L_law_171 : decode c_L_law 171 = .ok (.iadd, 1) := by decide +kernel
theorem d_L_law_172 : decode c_L_law 172 = .ok (.iaload, 1) := by decide +kernel
theorem d_L_law_173 : decode c_L_law 173 = .ok (.aload_n 0, 1) := by decide +kernel
theorem d_L_law_174 : decode c_L_law 174 = .ok (.iload 4, 2) := by decide +kernel
theorem d_L_law_176 : decode c_L_law 176 = .ok (.iconst 3, 1) := by decide +kernel
theorem d_L_law_177 : decode c_L_law 177 = .ok (.iadd, 1) := by decide +kernel
theorem d_L_law_178 : decode c_L_law 178 = .ok (.iaload, 1) := by decide +kernel
theorem d_L_law_179 : decode c_L_law 179 = .ok (.aload_n 3, 1) := by decide +kernel
theorem d_L_law_180 : decode c_L_law 180 = .ok (.invokestatic 56, 3) := by decide +kernel
theorem d_L_law_183 : decode c_L_law 183 = .ok (.istore 5, 2) := by decide +kernel
theorem d_L_law_185 : decode c_L_law 185 = .ok (.aload_n 2, 1) := by decide +kernel
theorem d_L_law_186 : decode c_L_law 186 = .ok (.aload_n 0, 1) := by decide +kernel
theorem d_L_law_187 : decode c_L_law 187 = .ok (.iload 4, 2) := by decide +kernel
theorem d_L_law_189 : decode c_L_law 189 = .ok (.iconst 1, 1) := by decide +kernel
theorem d_L_law_190 : decode c_L_law 190 = .ok (.iadd, 1) := by decide +kernel
theorem d_L_law_191 : decode c_L_law 191 = .ok (.iaload, 1) := by decide +kernel
theorem d_L_law_192 : decode c_L_law 192 = .ok (.aload_n 0, 1) := by decide +kernel
theorem d_L_law_193 : decode c_L_law 193 = .ok (.iload 4, 2) := by decide +kernel
theorem d_L_law_195 : decode c_L_law 195 = .ok (.iconst 2, 1) := by decide +kernel
theorem d_L_law_196 : decode c_L_law 196 = .ok (.iadd, 1) := by decide +kernel
theorem d_L_law_197 : decode c_L_law 197 = .ok (.iaload, 1) := by decide +kernel
theorem d_L_law_198 : decode c_L_law 198 = .ok (.aload_n 0, 1) := by decide +kernel
theorem d_L_law_199 : decode c_L_law 199 = .ok (.iload 4, 2) := by decide +kernel
theorem d_L_law_201 : decode c_L_law 201 = .ok (.iconst 3, 1) := by decide +kernel
theorem d_L_law_202 : decode c_L_law 202 = .ok (.iadd, 1) := by decide +kernel
theorem d_L_law_203 : decode c_L_law 203 = .ok (.iaload, 1) := by decide +kernel
theorem d_L_law_204 : decode c_L_law 204 = .ok (.invokevirtual 59, 3) := by decide +kernel
theorem d_L_law_207 : decode c_L_law 207 = .ok (.istore 6, 2) := by decide +kernel
theorem d_L_law_209 : decode c_L_law 209 = .ok (.aload_n 2, 1) := by decide +kernel
theorem d_L_law_210 : decode c_L_law 210 = .ok (.invokevirtual 52, 3) := by decide +kernel
theorem d_L_law_213 : decode c_L_law 213 = .ok (.iload 5, 2) := by decide +kernel
theorem d_L_law_215 : decode c_L_law 215 = .ok (.if_icmp .eq 5, 3) := by decide +kernel
theorem d_L_law_218 : decode c_L_law 218 = .ok (.iconst 0, 1) := by decide +kernel
theorem d_L_law_219 : decode c_L_law 219 = .ok (.ireturn, 1) := by decide +kernel
theorem d_L_law_220 : decode c_L_law 220 = .ok (.iload 5, 2) := by decide +kernel
theorem d_L_law_222 : decode c_L_law 222 = .ok (.ifCond .ne 15, 3) := by decide +kernel
theorem d_L_law_225 : decode c_L_law 225 = .ok (.aload_n 3, 1) := by decide +kernel
theorem d_L_law_226 : decode c_L_law 226 = .ok (.iconst 0, 1) := by decide +kernel
theorem d_L_law_227 : decode c_L_law 227 = .ok (.laload, 1) := by decide +kernel
theorem d_L_law_228 : decode c_L_law 228 = .ok (.iload 6, 2) := by decide +kernel
theorem d_L_law_230 : decode c_L_law 230 = .ok (.i2l, 1) := by decide +kernel
theorem d_L_law_231 : decode c_L_law 231 = .ok (.lcmp, 1) := by decide +kernel
theorem d_L_law_232 : decode c_L_law 232 = .ok (.ifCond .eq 5, 3) := by decide +kernel
theorem d_L_law_235 : decode c_L_law 235 = .ok (.iconst 0, 1) := by decide +kernel
theorem d_L_law_236 : decode c_L_law 236 = .ok (.ireturn, 1) := by decide +kernel
theorem d_L_law_237 : decode c_L_law 237 = .ok (.goto 551, 3) := by decide +kernel
theorem d_L_law_240 : decode c_L_law 240 = .ok (.aload_n 1, 1) := by decide +kernel
theorem d_L_law_241 : decode c_L_law 241 = .ok (.invokevirtual 60, 3) := by decide +kernel
theorem d_L_law_244 : decode c_L_law 244 = .ok (.aload_n 2, 1) := by decide +kernel
theorem d_L_law_245 : decode c_L_law 245 = .ok (.invokevirtual 64, 3) := by decide +kernel
theorem d_L_law_248 : decode c_L_law 248 = .ok (.if_icmp .eq 540, 3) := by decide +kernel
theorem d_L_law_251 : decode c_L_law 251 = .ok (.iconst 0, 1) := by decide +kernel
theorem d_L_law_252 : decode c_L_law 252 = .ok (.ireturn, 1) := by decide +kernel
theorem d_L_law_253 : decode c_L_law 253 = .ok (.aload_n 1, 1) := by decide +kernel
theorem d_L_law_254 : decode c_L_law 254 = .ok (.aload_n 0, 1) := by decide +kernel
theorem d_L_law_255 : decode c_L_law 255 = .ok (.iload 4, 2) := by decide +kernel
theorem d_L_law_257 : decode c_L_law 257 = .ok (.iconst 1, 1) := by decide +kernel
theorem d_L_law_258 : decode c_L_law 258 = .ok (.iadd, 1) := by decide +kernel
theorem d_L_law_259 : decode c_L_law 259 = .ok (.iaload, 1) := by decide +kernel
theorem d_L_law_260 : decode c_L_law 260 = .ok (.aload_n 0, 1) := by decide +kernel
theorem d_L_law_261 : decode c_L_law 261 = .ok (.iload 4, 2) := by decide +kernel
theorem d_L_law_263 : decode c_L_law 263 = .ok (.iconst 2, 1) := by decide +kernel
theorem d_L_law_264 : decode c_L_law 264 = .ok (.iadd, 1) := by decide +kernel
theorem d_L_law_265 : decode c_L_law 265 = .ok (.iaload, 1) := by decide +kernel
theorem d_L_law_266 : decode c_L_law 266 = .ok (.invokevirtual 65, 3) := by decide +kernel
theorem d_L_law_269 : decode c_L_law 269 = .ok (.aload_n 2, 1) := by decide +kernel
theorem d_L_law_270 : decode c_L_law 270 = .ok (.aload_n 0, 1) := by decide +kernel
theorem d_L_law_271 : decode c_L_law 271 = .ok (.iload 4, 2) := by decide +kernel
theorem d_L_law_273 : decode c_L_law 273 = .ok (.iconst 1, 1) := by decide +kernel
theorem d_L_law_274 : decode c_L_law 274 = .ok (.iadd, 1) := by decide +kernel
theorem d_L_law_275 : decode c_L_law 275 = .ok (.iaload, 1) := by decide +kernel
theorem d_L_law_276 : decode c_L_law 276 = .ok (.aload_n 0, 1) := by decide +kernel
theorem d_L_law_277 : decode c_L_law 277 = .ok (.iload 4, 2) := by decide +kernel
theorem d_L_law_279 : decode c_L_law 279 = .ok (.iconst 2, 1) := by decide +kernel
theorem d_L_law_280 : decode c_L_law 280 = .ok (.iadd, 1) := by decide +kernel
theorem d_L_law_281 : decode c_L_law 281 = .ok (.iaload, 1) := by decide +kernel
theorem d_L_law_282 : decode c_L_law 282 = .ok (.invokevirtual 68, 3) := by decide +kernel
theorem d_L_law_285 : decode c_L_law 285 = .ok (.if_icmp .eq 503, 3) := by decide +kernel
theorem d_L_law_288 : decode c_L_law 288 = .ok (.iconst 0, 1) := by decide +kernel
theorem d_L_law_289 : decode c_L_law 289 = .ok (.ireturn, 1) := by decide +kernel
theorem d_L_law_290 : decode c_L_law 290 = .ok (.aload_n 1, 1) := by decide +kernel
theorem d_L_law_291 : decode c_L_law 291 = .ok (.aload_n 0, 1) := by decide +kernel
theorem d_L_law_292 : decode c_L_law 292 = .ok (.iload 4, 2) := by decide +kernel
theorem d_L_law_294 : decode c_L_law 294 = .ok (.iconst 1, 1) := by decide +kernel
theorem d_L_law_295 : decode c_L_law 295 = .ok (.iadd, 1) := by decide +kernel
theorem d_L_law_296 : decode c_L_law 296 = .ok (.iaload, 1) := by decide +kernel
theorem d_L_law_297 : decode c_L_law 297 = .ok (.aload_n 0, 1) := by decide +kernel
theorem d_L_law_298 : decode c_L_law 298 = .ok (.iload 4, 2) := by decide +kernel
theorem d_L_law_300 : decode c_L_law 300 = .ok (.iconst 2, 1) := by decide +kernel
theorem d_L_law_301 : decode c_L_law 301 = .ok (.iadd, 1) := by decide +kernel
theorem d_L_law_302 : decode c_L_law 302 = .ok (.iaload, 1) := by decide +kernel
theorem d_L_law_303 : decode c_L_law 303 = .ok (.aload_n 3, 1) := by decide +kernel
theorem d_L_law_304 : decode c_L_law 304 = .ok (.invokestatic 69, 3) := by decide +kernel
theorem d_L_law_307 : decode c_L_law 307 = .ok (.istore 5, 2) := by decide +kernel
theorem d_L_law_309 : decode c_L_law 309 = .ok (.aload_n 2, 1) := by decide +kernel
theorem d_L_law_310 : decode c_L_law 310 = .ok (.aload_n 0, 1) := by decide +kernel
theorem d_L_law_311 : decode c_L_law 311 = .ok (.iload 4, 2) := by decide +kernel
theorem d_L_law_313 : decode c_L_law 313 = .ok (.iconst 1, 1) := by decide +kernel
theorem d_L_law_314 : decode c_L_law 314 = .ok (.iadd, 1) := by decide +kernel
theorem d_L_law_315 : decode c_L_law 315 = .ok (.iaload, 1) := by decide +kernel
theorem d_L_law_316 : decode c_L_law 316 = .ok (.aload_n 0, 1) := by decide +kernel
theorem d_L_law_317 : decode c_L_law 317 = .ok (.iload 4, 2) := by decide +kernel
theorem d_L_law_319 : decode c_L_law 319 = .ok (.iconst 2, 1) := by decide +kernel
theorem d_L_law_320 : decode c_L_law 320 = .ok (.iadd, 1) := by decide +kernel
theorem d_L_law_321 : decode c_L_law 321 = .ok (.iaload, 1) := by decide +kernel
theorem d_L_law_322 : decode c_L_law 322 = .ok (.invokevirtual 72, 3) := by decide +kernel
theorem d_L_law_325 : decode c_L_law 325 = .ok (.istore 6, 2) := by decide +kernel
theorem d_L_law_327 : decode c_L_law 327 = .ok (.aload_n 2, 1) := by decide +kernel
theorem d_L_law_328 : decode c_L_law 328 = .ok (.invokevirtual 52, 3) := by decide +kernel
theorem d_L_law_331 : decode c_L_law 331 = .ok (.iload 5, 2) := by decide +kernel
theorem d_L_law_333 : decode c_L_law 333 = .ok (.if_icmp .eq 5, 3) := by decide +kernel
theorem d_L_law_336 : decode c_L_law 336 = .ok (.iconst 0, 1) := by decide +kernel
theorem d_L_law_337 : decode c_L_law 337 = .ok (.ireturn, 1) := by decide +kernel
theorem d_L_law_338 : decode c_L_law 338 = .ok (.iload 5, 2) := by decide +kernel
theorem d_L_law_340 : decode c_L_law 340 = .ok (.ifCond .ne 15, 3) := by decide +kernel
theorem d_L_law_343 : decode c_L_law 343 = .ok (.aload_n 3, 1) := by decide +kernel
theorem d_L_law_344 : decode c_L_law 344 = .ok (.iconst 0, 1) := by decide +kernel
theorem d_L_law_345 : decode c_L_law 345 = .ok (.laload, 1) := by decide +kernel
theorem d_L_law_346 : decode c_L_law 346 = .ok (.iload 6, 2) := by decide +kernel
theorem d_L_law_348 : decode c_L_law 348 = .ok (.i2l, 1) := by decide +kernel
theorem d_L_law_349 : decode c_L_law 349 = .ok (.lcmp, 1) := by decide +kernel
theorem d_L_law_350 : decode c_L_law 350 = .ok (.ifCond .eq 5, 3) := by decide +kernel
theorem d_L_law_353 : decode c_L_law 353 = .ok (.iconst 0, 1) := by decide +kernel
theorem d_L_law_354 : decode c_L_law 354 = .ok (.ireturn, 1) := by decide +kernel
theorem d_L_law_355 : decode c_L_law 355 = .ok (.goto 433, 3) := by decide +kernel
theorem d_L_law_358 : decode c_L_law 358 = .ok (.aload_n 1, 1) := by decide +kernel
theorem d_L_law_359 : decode c_L_law 359 = .ok (.aload_n 0, 1) := by decide +kernel
theorem d_L_law_360 : decode c_L_law 360 = .ok (.iload 4, 2) := by decide +kernel
theorem d_L_law_362 : decode c_L_law 362 = .ok (.iconst 1, 1) := by decide +kernel
theorem d_L_law_363 : decode c_L_law 363 = .ok (.iadd, 1) := by decide +kernel
theorem d_L_law_364 : decode c_L_law 364 = .ok (.iaload, 1) := by decide +kernel
theorem d_L_law_365 : decode c_L_law 365 = .ok (.aload_n 0, 1) := by decide +kernel
theorem d_L_law_366 : decode c_L_law 366 = .ok (.iload 4, 2) := by decide +kernel
theorem d_L_law_368 : decode c_L_law 368 = .ok (.iconst 2, 1) := by decide +kernel
theorem d_L_law_369 : decode c_L_law 369 = .ok (.iadd, 1) := by decide +kernel
theorem d_L_law_370 : decode c_L_law 370 = .ok (.iaload, 1) := by decide +kernel
theorem d_L_law_371 : decode c_L_law 371 = .ok (.aload_n 0, 1) := by decide +kernel
theorem d_L_law_372 : decode c_L_law 372 = .ok (.iload 4, 2) := by decide +kernel
theorem d_L_law_374 : decode c_L_law 374 = .ok (.iconst 3, 1) := by decide +kernel
theorem d_L_law_375 : decode c_L_law 375 = .ok (.iadd, 1) := by decide +kernel
theorem d_L_law_376 : decode c_L_law 376 = .ok (.iaload, 1) := by decide +kernel
theorem d_L_law_377 : decode c_L_law 377 = .ok (.aload_n 3, 1) := by decide +kernel
theorem d_L_law_378 : decode c_L_law 378 = .ok (.invokestatic 73, 3) := by decide +kernel
theorem d_L_law_381 : decode c_L_law 381 = .ok (.istore 5, 2) := by decide +kernel
theorem d_L_law_383 : decode c_L_law 383 = .ok (.aload_n 2, 1) := by decide +kernel
theorem d_L_law_384 : decode c_L_law 384 = .ok (.aload_n 0, 1) := by decide +kernel
theorem d_L_law_385 : decode c_L_law 385 = .ok (.iload 4, 2) := by decide +kernel
theorem d_L_law_387 : decode c_L_law 387 = .ok (.iconst 1, 1) := by decide +kernel
theorem d_L_law_388 : decode c_L_law 388 = .ok (.iadd, 1) := by decide +kernel
theorem d_L_law_389 : decode c_L_law 389 = .ok (.iaload, 1) := by decide +kernel
theorem d_L_law_390 : decode c_L_law 390 = .ok (.aload_n 0, 1) := by decide +kernel
theorem d_L_law_391 : decode c_L_law 391 = .ok (.iload 4, 2) := by decide +kernel
theorem d_L_law_393 : decode c_L_law 393 = .ok (.iconst 2, 1) := by decide +kernel
theorem d_L_law_394 : decode c_L_law 394 = .ok (.iadd, 1) := by decide +kernel
theorem d_L_law_395 : decode c_L_law 395 = .ok (.iaload, 1) := by decide +kernel
theorem d_L_law_396 : decode c_L_law 396 = .ok (.aload_n 0, 1) := by decide +kernel
theorem d_L_law_397 : decode c_L_law 397 = .ok (.iload 4, 2) := by decide +kernel
theorem d_L_law_399 : decode c_L_law 399 = .ok (.iconst 3, 1) := by decide +kernel
theorem d_L_law_400 : decode c_L_law 400 = .ok (.iadd, 1) := by decide +kernel
theorem d_L_law_401 : decode c_L_law 401 = .ok (.iaload, 1) := by decide +kernel
theorem d_L_law_402 : decode c_L_law 402 = .ok (.invokevirtual 75, 3) := by decide +kernel
theorem d_L_law_405 : decode c_L_law 405 = .ok (.istore 6, 2) := by decide +kernel
theorem d_L_law_407 : decode c_L_law 407 = .ok (.aload_n 2, 1) := by decide +kernel
theorem d_L_law_408 : decode c_L_law 408 = .ok (.invokevirtual 52, 3) := by decide +kernel
theorem d_L_law_411 : decode c_L_law 411 = .ok (.iload 5, 2) := by decide +kernel
theorem d_L_law_413 : decode c_L_law 413 = .ok (.if_icmp .eq 5, 3) := by decide +kernel
theorem d_L_law_416 : decode c_L_law 416 = .ok (.iconst 0, 1) := by decide +kernel
theorem d_L_law_417 : decode c_L_law 417 = .ok (.ireturn, 1) := by decide +kernel
theorem d_L_law_418 : decode c_L_law 418 = .ok (.iload 5, 2) := by decide +kernel
theorem d_L_law_420 : decode c_L_law 420 = .ok (.ifCond .ne 15, 3) := by decide +kernel
theorem d_L_law_423 : decode c_L_law 423 = .ok (.aload_n 3, 1) := by decide +kernel
theorem d_L_law_424 : decode c_L_law 424 = .ok (.iconst 0, 1) := by decide +kernel
theorem d_L_law_425 : decode c_L_law 425 = .ok (.laload, 1) := by decide +kernel
theorem d_L_law_426 : decode c_L_law 426 = .ok (.iload 6, 2) := by decide +kernel
theorem d_L_law_428 : decode c_L_law 428 = .ok (.i2l, 1) := by decide +kernel
theorem d_L_law_429 : decode c_L_law 429 = .ok (.lcmp, 1) := by decide +kernel
theorem d_L_law_430 : decode c_L_law 430 = .ok (.ifCond .eq 5, 3) := by decide +kernel
theorem d_L_law_433 : decode c_L_law 433 = .ok (.iconst 0, 1) := by decide +kernel
theorem d_L_law_434 : decode c_L_law 434 = .ok (.ireturn, 1) := by decide +kernel
theorem d_L_law_435 : decode c_L_law 435 = .ok (.goto 353, 3) := by decide +kernel
theorem d_L_law_438 : decode c_L_law 438 = .ok (.aload_n 1, 1) := by decide +kernel
theorem d_L_law_439 : decode c_L_law 439 = .ok (.aload_n 0, 1) := by decide +kernel
theorem d_L_law_440 : decode c_L_law 440 = .ok (.iload 4, 2) := by decide +kernel
theorem d_L_law_442 : decode c_L_law 442 = .ok (.iconst 1, 1) := by decide +kernel
theorem d_L_law_443 : decode c_L_law 443 = .ok (.iadd, 1) := by decide +kernel
theorem d_L_law_444 : decode c_L_law 444 = .ok (.iaload, 1) := by decide +kernel
theorem d_L_law_445 : decode c_L_law 445 = .ok (.aload_n 3, 1) := by decide +kernel
theorem d_L_law_446 : decode c_L_law 446 = .ok (.invokestatic 76, 3) := by decide +kernel
theorem d_L_law_449 : decode c_L_law 449 = .ok (.istore 5, 2) := by decide +kernel
theorem d_L_law_451 : decode c_L_law 451 = .ok (.aload_n 2, 1) := by decide +kernel
theorem d_L_law_452 : decode c_L_law 452 = .ok (.aload_n 0, 1) := by decide +kernel
theorem d_L_law_453 : decode c_L_law 453 = .ok (.iload 4, 2) := by decide +kernel
theorem d_L_law_455 : decode c_L_law 455 = .ok (.iconst 1, 1) := by decide +kernel
theorem d_L_law_456 : decode c_L_law 456 = .ok (.iadd, 1) := by decide +kernel
theorem d_L_law_457 : decode c_L_law 457 = .ok (.iaload, 1) := by decide +kernel
theorem d_L_law_458 : decode c_L_law 458 = .ok (.invokevirtual 78, 3) := by decide +kernel
theorem d_L_law_461 : decode c_L_law 461 = .ok (.istore 6, 2) := by decide +kernel
theorem d_L_law_463 : decode c_L_law 463 = .ok (.aload_n 2, 1) := by decide +kernel
theorem d_L_law_464 : decode c_L_law 464 = .ok (.invokevirtual 52, 3) := by decide +kernel
theorem d_L_law_467 : decode c_L_law 467 = .ok (.iload 5, 2) := by decide +kernel
theorem d_L_law_469 : decode c_L_law 469 = .ok (.if_icmp .eq 5, 3) := by decide +kernel
theorem d_L_law_472 : decode c_L_law 472 = .ok (.iconst 0, 1) := by decide +kernel
theorem d_L_law_473 : decode c_L_law 473 = .ok (.ireturn, 1) := by decide +kernel
theorem d_L_law_474 : decode c_L_law 474 = .ok (.iload 5, 2) := by decide +kernel
theorem d_L_law_476 : decode c_L_law 476 = .ok (.ifCond .ne 22, 3) := by decide +kernel
theorem d_L_law_479 : decode c_L_law 479 = .ok (.aload_n 3, 1) := by decide +kernel
theorem d_L_law_480 : decode c_L_law 480 = .ok (.iconst 0, 1) := by decide +kernel
theorem d_L_law_481 : decode c_L_law 481 = .ok (.laload, 1) := by decide +kernel
theorem d_L_law_482 : decode c_L_law 482 = .ok (.iload 6, 2) := by decide +kernel
theorem d_L_law_484 : decode c_L_law 484 = .ok (.ifCond .eq 7, 3) := by decide +kernel
theorem d_L_law_487 : decode c_L_law 487 = .ok (.lconst 1, 1) := by decide +kernel
theorem d_L_law_488 : decode c_L_law 488 = .ok (.goto 4, 3) := by decide +kernel
theorem d_L_law_491 : decode c_L_law 491 = .ok (.lconst 0, 1) := by decide +kernel
theorem d_L_law_492 : decode c_L_law 492 = .ok (.lcmp, 1) := by decide +kernel
theorem d_L_law_493 : decode c_L_law 493 = .ok (.ifCond .eq 5, 3) := by decide +kernel
theorem d_L_law_496 : decode c_L_law 496 = .ok (.iconst 0, 1) := by decide +kernel
theorem d_L_law_497 : decode c_L_law 497 = .ok (.ireturn, 1) := by decide +kernel
theorem d_L_law_498 : decode c_L_law 498 = .ok (.goto 290, 3) := by decide +kernel
theorem d_L_law_501 : decode c_L_law 501 = .ok (.aload_n 1, 1) := by decide +kernel
theorem d_L_law_502 : decode c_L_law 502 = .ok (.aload_n 0, 1) := by decide +kernel
theorem d_L_law_503 : decode c_L_law 503 = .ok (.iload 4, 2) := by decide +kernel
theorem d_L_law_505 : decode c_L_law 505 = .ok (.iconst 1, 1) := by decide +kernel
theorem d_L_law_506 : decode c_L_law 506 = .ok (.iadd, 1) := by decide +kernel
theorem d_L_law_507 : decode c_L_law 507 = .ok (.iaload, 1) := by decide +kernel
theorem d_L_law_508 : decode c_L_law 508 = .ok (.aload_n 3, 1) := by decide +kernel
theorem d_L_law_509 : decode c_L_law 509 = .ok (.invokestatic 79, 3) := by decide +kernel
theorem d_L_law_512 : decode c_L_law 512 = .ok (.istore 5, 2) := by decide +kernel
theorem d_L_law_514 : decode c_L_law 514 = .ok (.aload_n 2, 1) := by decide +kernel
theorem d_L_law_515 : decode c_L_law 515 = .ok (.aload_n 0, 1) := by decide +kernel
theorem d_L_law_516 : decode c_L_law 516 = .ok (.iload 4, 2) := by decide +kernel
theorem d_L_law_518 : decode c_L_law 518 = .ok (.iconst 1, 1) := by decide +kernel
theorem d_L_law_519 : decode c_L_law 519 = .ok (.iadd, 1) := by decide +kernel
theorem d_L_law_520 : decode c_L_law 520 = .ok (.iaload, 1) := by decide +kernel
theorem d_L_law_521 : decode c_L_law 521 = .ok (.invokevirtual 81, 3) := by decide +kernel
theorem d_L_law_524 : decode c_L_law 524 = .ok (.istore 6, 2) := by decide +kernel
theorem d_L_law_526 : decode c_L_law 526 = .ok (.aload_n 2, 1) := by decide +kernel
theorem d_L_law_527 : decode c_L_law 527 = .ok (.invokevirtual 52, 3) := by decide +kernel
theorem d_L_law_530 : decode c_L_law 530 = .ok (.iload 5, 2) := by decide +kernel
theorem d_L_law_532 : decode c_L_law 532 = .ok (.if_icmp .eq 5, 3) := by decide +kernel
theorem d_L_law_535 : decode c_L_law 535 = .ok (.iconst 0, 1) := by decide +kernel
theorem d_L_law_536 : decode c_L_law 536 = .ok (.ireturn, 1) := by decide +kernel
theorem d_L_law_537 : decode c_L_law 537 = .ok (.iload 5, 2) := by decide +kernel
theorem d_L_law_539 : decode c_L_law 539 = .ok (.ifCond .ne 22, 3) := by decide +kernel
theorem d_L_law_542 : decode c_L_law 542 = .ok (.aload_n 3, 1) := by decide +kernel
theorem d_L_law_543 : decode c_L_law 543 = .ok (.iconst 0, 1) := by decide +kernel
theorem d_L_law_544 : decode c_L_law 544 = .ok (.laload, 1) := by decide +kernel
theorem d_L_law_545 : decode c_L_law 545 = .ok (.iload 6, 2) := by decide +kernel
theorem d_L_law_547 : decode c_L_law 547 = .ok (.ifCond .eq 7, 3) := by decide +kernel
theorem d_L_law_550 : decode c_L_law 550 = .ok (.lconst 1, 1) := by decide +kernel
theorem d_L_law_551 : decode c_L_law 551 = .ok (.goto 4, 3) := by decide +kernel
theorem d_L_law_554 : decode c_L_law 554 = .ok (.lconst 0, 1) := by decide +kernel
theorem d_L_law_555 : decode c_L_law 555 = .ok (.lcmp, 1) := by decide +kernel
theorem d_L_law_556 : decode c_L_law 556 = .ok (.ifCond .eq 5, 3) := by decide +kernel
theorem d_L_law_559 : decode c_L_law 559 = .ok (.iconst 0, 1) := by decide +kernel
theorem d_L_law_560 : decode c_L_law 560 = .ok (.ireturn, 1) := by decide +kernel
theorem d_L_law_561 : decode c_L_law 561 = .ok (.goto 227, 3) := by decide +kernel
theorem d_L_law_564 : decode c_L_law 564 = .ok (.aload_n 1, 1) := by decide +kernel
theorem d_L_law_565 : decode c_L_law 565 = .ok (.aload_n 0, 1) := by decide +kernel
theorem d_L_law_566 : decode c_L_law 566 = .ok (.iload 4, 2) := by decide +kernel
theorem d_L_law_568 : decode c_L_law 568 = .ok (.iconst 1, 1) := by decide +kernel
theorem d_L_law_569 : decode c_L_law 569 = .ok (.iadd, 1) := by decide +kernel
theorem d_L_law_570 : decode c_L_law 570 = .ok (.iaload, 1) := by decide +kernel
theorem d_L_law_571 : decode c_L_law 571 = .ok (.aload_n 0, 1) := by decide +kernel
theorem d_L_law_572 : decode c_L_law 572 = .ok (.iload 4, 2) := by decide +kernel
theorem d_L_law_574 : decode c_L_law 574 = .ok (.iconst 2, 1) := by decide +kernel
theorem d_L_law_575 : decode c_L_law 575 = .ok (.iadd, 1) := by decide +kernel
theorem d_L_law_576 : decode c_L_law 576 = .ok (.iaload, 1) := by decide +kernel
theorem d_L_law_577 : decode c_L_law 577 = .ok (.aload_n 3, 1) := by decide +kernel
theorem d_L_law_578 : decode c_L_law 578 = .ok (.invokestatic 82, 3) := by decide +kernel
theorem d_L_law_581 : decode c_L_law 581 = .ok (.istore 5, 2) := by decide +kernel
theorem d_L_law_583 : decode c_L_law 583 = .ok (.aload_n 2, 1) := by decide +kernel
theorem d_L_law_584 : decode c_L_law 584 = .ok (.aload_n 0, 1) := by decide +kernel
theorem d_L_law_585 : decode c_L_law 585 = .ok (.iload 4, 2) := by decide +kernel
theorem d_L_law_587 : decode c_L_law 587 = .ok (.iconst 1, 1) := by decide +kernel
theorem d_L_law_588 : decode c_L_law 588 = .ok (.iadd, 1) := by decide +kernel
theorem d_L_law_589 : decode c_L_law 589 = .ok (.iaload, 1) := by decide +kernel
theorem d_L_law_590 : decode c_L_law 590 = .ok (.aload_n 0, 1) := by decide +kernel
theorem d_L_law_591 : decode c_L_law 591 = .ok (.iload 4, 2) := by decide +kernel
theorem d_L_law_593 : decode c_L_law 593 = .ok (.iconst 2, 1) := by decide +kernel
theorem d_L_law_594 : decode c_L_law 594 = .ok (.iadd, 1) := by decide +kernel
theorem d_L_law_595 : decode c_L_law 595 = .ok (.iaload, 1) := by decide +kernel
theorem d_L_law_596 : decode c_L_law 596 = .ok (.invokevirtual 84, 3) := by decide +kernel
theorem d_L_law_599 : decode c_L_law 599 = .ok (.istore 6, 2) := by decide +kernel
theorem d_L_law_601 : decode c_L_law 601 = .ok (.aload_n 2, 1) := by decide +kernel
theorem d_L_law_602 : decode c_L_law 602 = .ok (.invokevirtual 52, 3) := by decide +kernel
theorem d_L_law_605 : decode c_L_law 605 = .ok (.iload 5, 2) := by decide +kernel
theorem d_L_law_607 : decode c_L_law 607 = .ok (.if_icmp .eq 5, 3) := by decide +kernel
theorem d_L_law_610 : decode c_L_law 610 = .ok (.iconst 0, 1) := by decide +kernel
theorem d_L_law_611 : decode c_L_law 611 = .ok (.ireturn, 1) := by decide +kernel
theorem d_L_law_612 : decode c_L_law 612 = .ok (.iload 5, 2) := by decide +kernel
theorem d_L_law_614 : decode c_L_law 614 = .ok (.ifCond .ne 15, 3) := by decide +kernel
theorem d_L_law_617 : decode c_L_law 617 = .ok (.aload_n 3, 1) := by decide +kernel
theorem d_L_law_618 : decode c_L_law 618 = .ok (.iconst 0, 1) := by decide +kernel
theorem d_L_law_619 : decode c_L_law 619 = .ok (.laload, 1) := by decide +kernel
theorem d_L_law_620 : decode c_L_law 620 = .ok (.iload 6, 2) := by decide +kernel
theorem d_L_law_622 : decode c_L_law 622 = .ok (.i2l, 1) := by decide +kernel
theorem d_L_law_623 : decode c_L_law 623 = .ok (.lcmp, 1) := by decide +kernel
theorem d_L_law_624 : decode c_L_law 624 = .ok (.ifCond .eq 5, 3) := by decide +kernel
theorem d_L_law_627 : decode c_L_law 627 = .ok (.iconst 0, 1) := by decide +kernel
theorem d_L_law_628 : decode c_L_law 628 = .ok (.ireturn, 1) := by decide +kernel
theorem d_L_law_629 : decode c_L_law 629 = .ok (.goto 159, 3) := by decide +kernel
theorem d_L_law_632 : decode c_L_law 632 = .ok (.aload_n 1, 1) := by decide +kernel
theorem d_L_law_633 : decode c_L_law 633 = .ok (.aload_n 0, 1) := by decide +kernel
theorem d_L_law_634 : decode c_L_law 634 = .ok (.iload 4, 2) := by decide +kernel
theorem d_L_law_636 : decode c_L_law 636 = .ok (.iconst 1, 1) := by decide +kernel
theorem d_L_law_637 : decode c_L_law 637 = .ok (.iadd, 1) := by decide +kernel
theorem d_L_law_638 : decode c_L_law 638 = .ok (.iaload, 1) := by decide +kernel
theorem d_L_law_639 : decode c_L_law 639 = .ok (.aload_n 0, 1) := by decide +kernel
theorem d_L_law_640 : decode c_L_law 640 = .ok (.iload 4, 2) := by decide +kernel
theorem d_L_law_642 : decode c_L_law 642 = .ok (.iconst 2, 1) := by decide +kernel
theorem d_L_law_643 : decode c_L_law 643 = .ok (.iadd, 1) := by decide +kernel
theorem d_L_law_644 : decode c_L_law 644 = .ok (.iaload, 1) := by decide +kernel
theorem d_L_law_645 : decode c_L_law 645 = .ok (.invokevirtual 85, 3) := by decide +kernel
theorem d_L_law_648 : decode c_L_law 648 = .ok (.aload_n 2, 1) := by decide +kernel
theorem d_L_law_649 : decode c_L_law 649 = .ok (.aload_n 0, 1) := by decide +kernel
theorem d_L_law_650 : decode c_L_law 650 = .ok (.iload 4, 2) := by decide +kernel
theorem d_L_law_652 : decode c_L_law 652 = .ok (.iconst 1, 1) := by decide +kernel
theorem d_L_law_653 : decode c_L_law 653 = .ok (.iadd, 1) := by decide +kernel
theorem d_L_law_654 : decode c_L_law 654 = .ok (.iaload, 1) := by decide +kernel
theorem d_L_law_655 : decode c_L_law 655 = .ok (.aload_n 0, 1) := by decide +kernel
theorem d_L_law_656 : decode c_L_law 656 = .ok (.iload 4, 2) := by decide +kernel
theorem d_L_law_658 : decode c_L_law 658 = .ok (.iconst 2, 1) := by decide +kernel
theorem d_L_law_659 : decode c_L_law 659 = .ok (.iadd, 1) := by decide +kernel
theorem d_L_law_660 : decode c_L_law 660 = .ok (.iaload, 1) := by decide +kernel
theorem d_L_law_661 : decode c_L_law 661 = .ok (.invokevirtual 88, 3) := by decide +kernel
theorem d_L_law_664 : decode c_L_law 664 = .ok (.if_icmp .eq 124, 3) := by decide +kernel
theorem d_L_law_667 : decode c_L_law 667 = .ok (.iconst 0, 1) := by decide +kernel
theorem d_L_law_668 : decode c_L_law 668 = .ok (.ireturn, 1) := by decide +kernel
theorem d_L_law_669 : decode c_L_law 669 = .ok (.aload_n 1, 1) := by decide +kernel
theorem d_L_law_670 : decode c_L_law 670 = .ok (.aload_n 0, 1) := by decide +kernel
theorem d_L_law_671 : decode c_L_law 671 = .ok (.iload 4, 2) := by decide +kernel
theorem d_L_law_673 : decode c_L_law 673 = .ok (.iconst 1, 1) := by decide +kernel
theorem d_L_law_674 : decode c_L_law 674 = .ok (.iadd, 1) := by decide +kernel
theorem d_L_law_675 : decode c_L_law 675 = .ok (.iaload, 1) := by decide +kernel
theorem d_L_law_676 : decode c_L_law 676 = .ok (.invokevirtual 89, 3) := by decide +kernel
theorem d_L_law_679 : decode c_L_law 679 = .ok (.aload_n 2, 1) := by decide +kernel
theorem d_L_law_680 : decode c_L_law 680 = .ok (.aload_n 0, 1) := by decide +kernel
theorem d_L_law_681 : decode c_L_law 681 = .ok (.iload 4, 2) := by decide +kernel
theorem d_L_law_683 : decode c_L_law 683 = .ok (.iconst 1, 1) := by decide +kernel
theorem d_L_law_684 : decode c_L_law 684 = .ok (.iadd, 1) := by decide +kernel
theorem d_L_law_685 : decode c_L_law 685 = .ok (.iaload, 1) := by decide +kernel
theorem d_L_law_686 : decode c_L_law 686 = .ok (.invokevirtual 92, 3) := by decide +kernel
theorem d_L_law_689 : decode c_L_law 689 = .ok (.if_icmp .eq 99, 3) := by decide +kernel
theorem d_L_law_692 : decode c_L_law 692 = .ok (.iconst 0, 1) := by decide +kernel
theorem d_L_law_693 : decode c_L_law 693 = .ok (.ireturn, 1) := by decide +kernel
theorem d_L_law_694 : decode c_L_law 694 = .ok (.aload_n 1, 1) := by decide +kernel
theorem d_L_law_695 : decode c_L_law 695 = .ok (.aload_n 0, 1) := by decide +kernel
theorem d_L_law_696 : decode c_L_law 696 = .ok (.iload 4, 2) := by decide +kernel
theorem d_L_law_698 : decode c_L_law 698 = .ok (.iconst 1, 1) := by decide +kernel
theorem d_L_law_699 : decode c_L_law 699 = .ok (.iadd, 1) := by decide +kernel
theorem d_L_law_700 : decode c_L_law 700 = .ok (.iaload, 1) := by decide +kernel
theorem d_L_law_701 : decode c_L_law 701 = .ok (.i2l, 1) := by decide +kernel
theorem d_L_law_702 : decode c_L_law 702 = .ok (.bipush 32, 2) := by decide +kernel
theorem d_L_law_704 : decode c_L_law 704 = .ok (.lshl, 1) := by decide +kernel
theorem d_L_law_705 : decode c_L_law 705 = .ok (.aload_n 0, 1) := by decide +kernel
theorem d_L_law_706 : decode c_L_law 706 = .ok (.iload 4, 2) := by decide +kernel
theorem d_L_law_708 : decode c_L_law 708 = .ok (.iconst 2, 1) := by decide +kernel
theorem d_L_law_709 : decode c_L_law 709 = .ok (.iadd, 1) := by decide +kernel
theorem d_L_law_710 : decode c_L_law 710 = .ok (.iaload, 1) := by decide +kernel
theorem d_L_law_711 : decode c_L_law 711 = .ok (.i2l, 1) := by decide +kernel
theorem d_L_law_712 : decode c_L_law 712 = .ok (.ldc2_w 93, 3) := by decide +kernel
theorem d_L_law_715 : decode c_L_law 715 = .ok (.land, 1) := by decide +kernel
theorem d_L_law_716 : decode c_L_law 716 = .ok (.lor, 1) := by decide +kernel
theorem d_L_law_717 : decode c_L_law 717 = .ok (.aload_n 0, 1) := by decide +kernel
theorem d_L_law_718 : decode c_L_law 718 = .ok (.iload 4, 2) := by decide +kernel
theorem d_L_law_720 : decode c_L_law 720 = .ok (.iconst 3, 1) := by decide +kernel
theorem d_L_law_721 : decode c_L_law 721 = .ok (.iadd, 1) := by decide +kernel
theorem d_L_law_722 : decode c_L_law 722 = .ok (.iaload, 1) := by decide +kernel
theorem d_L_law_723 : decode c_L_law 723 = .ok (.invokevirtual 95, 3) := by decide +kernel
theorem d_L_law_726 : decode c_L_law 726 = .ok (.aload_n 2, 1) := by decide +kernel
theorem d_L_law_727 : decode c_L_law 727 = .ok (.aload_n 0, 1) := by decide +kernel
theorem d_L_law_728 : decode c_L_law 728 = .ok (.iload 4, 2) := by decide +kernel
theorem d_L_law_730 : decode c_L_law 730 = .ok (.iconst 1, 1) := by decide +kernel
theorem d_L_law_731 : decode c_L_law 731 = .ok (.iadd, 1) := by decide +kernel
theorem d_L_law_732 : decode c_L_law 732 = .ok (.iaload, 1) := by decide +kernel
theorem d_L_law_733 : decode c_L_law 733 = .ok (.i2l, 1) := by decide +kernel
theorem d_L_law_734 : decode c_L_law 734 = .ok (.bipush 32, 2) := by decide +kernel
theorem d_L_law_736 : decode c_L_law 736 = .ok (.lshl, 1) := by decide +kernel
theorem d_L_law_737 : decode c_L_law 737 = .ok (.aload_n 0, 1) := by decide +kernel
theorem d_L_law_738 : decode c_L_law 738 = .ok (.iload 4, 2) := by decide +kernel
theorem d_L_law_740 : decode c_L_law 740 = .ok (.iconst 2, 1) := by decide +kernel
theorem d_L_law_741 : decode c_L_law 741 = .ok (.iadd, 1) := by decide +kernel
theorem d_L_law_742 : decode c_L_law 742 = .ok (.iaload, 1) := by decide +kernel
theorem d_L_law_743 : decode c_L_law 743 = .ok (.i2l, 1) := by decide +kernel
theorem d_L_law_744 : decode c_L_law 744 = .ok (.ldc2_w 93, 3) := by decide +kernel
theorem d_L_law_747 : decode c_L_law 747 = .ok (.land, 1) := by decide +kernel
theorem d_L_law_748 : decode c_L_law 748 = .ok (.lor, 1) := by decide +kernel
theorem d_L_law_749 : decode c_L_law 749 = .ok (.aload_n 0, 1) := by decide +kernel
theorem d_L_law_750 : decode c_L_law 750 = .ok (.iload 4, 2) := by decide +kernel
theorem d_L_law_752 : decode c_L_law 752 = .ok (.iconst 3, 1) := by decide +kernel
theorem d_L_law_753 : decode c_L_law 753 = .ok (.iadd, 1) := by decide +kernel
theorem d_L_law_754 : decode c_L_law 754 = .ok (.iaload, 1) := by decide +kernel
theorem d_L_law_755 : decode c_L_law 755 = .ok (.invokevirtual 99, 3) := by decide +kernel
theorem d_L_law_758 : decode c_L_law 758 = .ok (.if_icmp .eq 30, 3) := by decide +kernel
theorem d_L_law_761 : decode c_L_law 761 = .ok (.iconst 0, 1) := by decide +kernel
theorem d_L_law_762 : decode c_L_law 762 = .ok (.ireturn, 1) := by decide +kernel
theorem d_L_law_763 : decode c_L_law 763 = .ok (.aload_n 1, 1) := by decide +kernel
theorem d_L_law_764 : decode c_L_law 764 = .ok (.aload_n 0, 1) := by decide +kernel
theorem d_L_law_765 : decode c_L_law 765 = .ok (.iload 4, 2) := by decide +kernel
theorem d_L_law_767 : decode c_L_law 767 = .ok (.iconst 1, 1) := by decide +kernel
theorem d_L_law_768 : decode c_L_law 768 = .ok (.iadd, 1) := by decide +kernel
theorem d_L_law_769 : decode c_L_law 769 = .ok (.iaload, 1) := by decide +kernel
theorem d_L_law_770 : decode c_L_law 770 = .ok (.invokevirtual 100, 3) := by decide +kernel
theorem d_L_law_773 : decode c_L_law 773 = .ok (.aload_n 2, 1) := by decide +kernel
theorem d_L_law_774 : decode c_L_law 774 = .ok (.aload_n 0, 1) := by decide +kernel
theorem d_L_law_775 : decode c_L_law 775 = .ok (.iload 4, 2) := by decide +kernel
theorem d_L_law_777 : decode c_L_law 777 = .ok (.iconst 1, 1) := by decide +kernel
theorem d_L_law_778 : decode c_L_law 778 = .ok (.iadd, 1) := by decide +kernel
theorem d_L_law_779 : decode c_L_law 779 = .ok (.iaload, 1) := by decide +kernel
theorem d_L_law_780 : decode c_L_law 780 = .ok (.invokevirtual 103, 3) := by decide +kernel
theorem d_L_law_783 : decode c_L_law 783 = .ok (.if_icmp .eq 5, 3) := by decide +kernel
theorem d_L_law_786 : decode c_L_law 786 = .ok (.iconst 0, 1) := by decide +kernel
theorem d_L_law_787 : decode c_L_law 787 = .ok (.ireturn, 1) := by decide +kernel
theorem d_L_law_788 : decode c_L_law 788 = .ok (.iinc 4 4, 3) := by decide +kernel
theorem d_L_law_791 : decode c_L_law 791 = .ok (.goto (-768), 3) := by decide +kernel
theorem d_L_law_794 : decode c_L_law 794 = .ok (.iconst 1, 1) := by decide +kernel
theorem d_L_law_795 : decode c_L_law 795 = .ok (.ireturn, 1) := by decide +kernel
