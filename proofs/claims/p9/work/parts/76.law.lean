abbrev c_L_law : ByteArray := code
def y_L_law : MethodName := ⟨R_L, "law", "([I)Z"⟩
theorem d_L_law_0 : decode c_L_law 0 = .ok (.new 8, 3) := by decide +kernel
theorem d_L_law_3 : decode c_L_law 3 = .ok (.dup, 1) := by decide +kernel
theorem d_L_law_4 : decode c_L_law 4 = .ok (.invokespecial 42, 3) := by decide +kernel
theorem d_L_law_7 : decode c_L_law 7 = .ok (.astore_n 1, 1) := by decide +kernel
theorem d_L_law_8 : decode c_L_law 8 = .ok (.new 43, 3) := by decide +kernel
theorem d_L_law_11 : decode c_L_law 11 = .ok (.dup, 1) := by decide +kernel
theorem d_L_law_12 : decode c_L_law 12 = .ok (.invokespecial 45, 3) := by decide +kernel
theorem d_L_law_15 : decode c_L_law 15 = .ok (.astore_n 2, 1) := by decide +kernel
theorem d_L_law_16 : decode c_L_law 16 = .ok (.iconst 1, 1) := by decide +kernel
theorem d_L_law_17 : decode c_L_law 17 = .ok (.newarray .long, 2) := by decide +kernel
theorem d_L_law_19 : decode c_L_law 19 = .ok (.astore_n 3, 1) := by decide +kernel
theorem d_L_law_20 : decode c_L_law 20 = .ok (.iconst 0, 1) := by decide +kernel
theorem d_L_law_21 : decode c_L_law 21 = .ok (.istore 4, 2) := by decide +kernel
theorem d_L_law_23 : decode c_L_law 23 = .ok (.iload 4, 2) := by decide +kernel
theorem d_L_law_25 : decode c_L_law 25 = .ok (.aload_n 0, 1) := by decide +kernel
theorem d_L_law_26 : decode c_L_law 26 = .ok (.arraylength, 1) := by decide +kernel
theorem d_L_law_27 : decode c_L_law 27 = .ok (.iconst 4, 1) := by decide +kernel
theorem d_L_law_28 : decode c_L_law 28 = .ok (.isub, 1) := by decide +kernel
theorem d_L_law_29 : decode c_L_law 29 = .ok (.if_icmp .gt 590, 3) := by decide +kernel
theorem d_L_law_32 : decode c_L_law 32 = .ok (.aload_n 0, 1) := by decide +kernel
theorem d_L_law_33 : decode c_L_law 33 = .ok (.iload 4, 2) := by decide +kernel
theorem d_L_law_35 : decode c_L_law 35 = .ok (.iaload, 1) := by decide +kernel
theorem d_L_law_36 : decode c_L_law 36 = .ok (.bipush 15, 2) := by decide +kernel
theorem d_L_law_38 : decode c_L_law 38 = .ok (.iand, 1) := by decide +kernel
theorem d_L_law_39 : decode c_L_law 39 = .ok (.tableswitch 574 0 12 #[65, 93, 145, 158, 195, 235, 287, 315, 378, 418, 455, 480, 549], 65) := by decide +kernel
theorem d_L_law_104 : decode c_L_law 104 = .ok (.aload_n 1, 1) := by decide +kernel
theorem d_L_law_105 : decode c_L_law 105 = .ok (.aload_n 0, 1) := by decide +kernel
theorem d_L_law_106 : decode c_L_law 106 = .ok (.iload 4, 2) := by decide +kernel
theorem d_L_law_108 : decode c_L_law 108 = .ok (.iconst 1, 1) := by decide +kernel
theorem d_L_law_109 : decode c_L_law 109 = .ok (.iadd, 1) := by decide +kernel
theorem d_L_law_110 : decode c_L_law 110 = .ok (.iaload, 1) := by decide +kernel
theorem d_L_law_111 : decode c_L_law 111 = .ok (.aload_n 3, 1) := by decide +kernel
theorem d_L_law_112 : decode c_L_law 112 = .ok (.invokestatic 46, 3) := by decide +kernel
theorem d_L_law_115 : decode c_L_law 115 = .ok (.istore 5, 2) := by decide +kernel
theorem d_L_law_117 : decode c_L_law 117 = .ok (.aload_n 2, 1) := by decide +kernel
theorem d_L_law_118 : decode c_L_law 118 = .ok (.aload_n 0, 1) := by decide +kernel
theorem d_L_law_119 : decode c_L_law 119 = .ok (.iload 4, 2) := by decide +kernel
theorem d_L_law_121 : decode c_L_law 121 = .ok (.iconst 1, 1) := by decide +kernel
theorem d_L_law_122 : decode c_L_law 122 = .ok (.iadd, 1) := by decide +kernel
theorem d_L_law_123 : decode c_L_law 123 = .ok (.iaload, 1) := by decide +kernel
theorem d_L_law_124 : decode c_L_law 124 = .ok (.invokevirtual 51, 3) := by decide +kernel
theorem d_L_law_127 : decode c_L_law 127 = .ok (.istore 6, 2) := by decide +kernel
theorem d_L_law_129 : decode c_L_law 129 = .ok (.goto 484, 3) := by decide +kernel
theorem d_L_law_132 : decode c_L_law 132 = .ok (.aload_n 1, 1) := by decide +kernel
theorem d_L_law_133 : decode c_L_law 133 = .ok (.aload_n 0, 1) := by decide +kernel
theorem d_L_law_134 : decode c_L_law 134 = .ok (.iload 4, 2) := by decide +kernel
theorem d_L_law_136 : decode c_L_law 136 = .ok (.iconst 1, 1) := by decide +kernel
theorem d_L_law_137 : decode c_L_law 137 = .ok (.iadd, 1) := by decide +kernel
theorem d_L_law_138 : decode c_L_law 138 = .ok (.iaload, 1) := by decide +kernel
theorem d_L_law_139 : decode c_L_law 139 = .ok (.aload_n 0, 1) := by decide +kernel
theorem d_L_law_140 : decode c_L_law 140 = .ok (.iload 4, 2) := by decide +kernel
theorem d_L_law_142 : decode c_L_law 142 = .ok (.iconst 2, 1) := by decide +kernel
theorem d_L_law_143 : decode c_L_law 143 = .ok (.iadd, 1) := by decide +kernel
theorem d_L_law_144 : decode c_L_law 144 = .ok (.iaload, 1) := by decide +kernel
theorem d_L_law_145 : decode c_L_law 145 = .ok (.aload_n 0, 1) := by decide +kernel
theorem d_L_law_146 : decode c_L_law 146 = .ok (.iload 4, 2) := by decide +kernel
theorem d_L_law_148 : decode c_L_law 148 = .ok (.iconst 3, 1) := by decide +kernel
theorem d_L_law_149 : decode c_L_law 149 = .ok (.iadd, 1) := by decide +kernel
theorem d_L_law_150 : decode c_L_law 150 = .ok (.iaload, 1) := by decide +kernel
theorem d_L_law_151 : decode c_L_law 151 = .ok (.aload_n 3, 1) := by decide +kernel
theorem d_L_law_152 : decode c_L_law 152 = .ok (.invokestatic 52, 3) := by decide +kernel
theorem d_L_law_155 : decode c_L_law 155 = .ok (.istore 5, 2) := by decide +kernel
theorem d_L_law_157 : decode c_L_law 157 = .ok (.aload_n 2, 1) := by decide +kernel
theorem d_L_law_158 : decode c_L_law 158 = .ok (.aload_n 0, 1) := by decide +kernel
theorem d_L_law_159 : decode c_L_law 159 = .ok (.iload 4, 2) := by decide +kernel
theorem d_L_law_161 : decode c_L_law 161 = .ok (.iconst 1, 1) := by decide +kernel
theorem d_L_law_162 : decode c_L_law 162 = .ok (.iadd, 1) := by decide +kernel
theorem d_L_law_163 : decode c_L_law 163 = .ok (.iaload, 1) := by decide +kernel
theorem d_L_law_164 : decode c_L_law 164 = .ok (.aload_n 0, 1) := by decide +kernel
theorem d_L_law_165 : decode c_L_law 165 = .ok (.iload 4, 2) := by decide +kernel
theorem d_L_law_167 : decode c_L_law 167 = .ok (.iconst 2, 1) := by decide +kernel
theorem d_L_law_168 : decode c_L_law 168 = .ok (.iadd, 1) := by decide +kernel
theorem d_L_law_169 : decode c_L_law 169 = .ok (.iaload, 1) := by decide +kernel
theorem d_L_law_170 : decode c_L_law 170 = .ok (.aload_n 0, 1) := by decide +kernel
theorem d_L_law_171 : decode c_L_law 171 = .ok (.iload 4, 2) := by decide +kernel
theorem d_L_law_173 : decode c_L_law 173 = .ok (.iconst 3, 1) := by decide +kernel
theorem d_L_law_174 : decode c_L_law 174 = .ok (.iadd, 1) := by decide +kernel
theorem d_L_law_175 : decode c_L_law 175 = .ok (.iaload, 1) := by decide +kernel
theorem d_L_law_176 : decode c_L_law 176 = .ok (.invokevirtual 55, 3) := by decide +kernel
theorem d_L_law_179 : decode c_L_law 179 = .ok (.istore 6, 2) := by decide +kernel
theorem d_L_law_181 : decode c_L_law 181 = .ok (.goto 432, 3) := by decide +kernel
theorem d_L_law_184 : decode c_L_law 184 = .ok (.aload_n 1, 1) := by decide +kernel
theorem d_L_law_185 : decode c_L_law 185 = .ok (.invokevirtual 56, 3) := by decide +kernel
theorem d_L_law_188 : decode c_L_law 188 = .ok (.pop, 1) := by decide +kernel
theorem d_L_law_189 : decode c_L_law 189 = .ok (.aload_n 2, 1) := by decide +kernel
theorem d_L_law_190 : decode c_L_law 190 = .ok (.invokevirtual 60, 3) := by decide +kernel
theorem d_L_law_193 : decode c_L_law 193 = .ok (.pop, 1) := by decide +kernel
theorem d_L_law_194 : decode c_L_law 194 = .ok (.goto 419, 3) := by decide +kernel
theorem d_L_law_197 : decode c_L_law 197 = .ok (.aload_n 1, 1) := by decide +kernel
theorem d_L_law_198 : decode c_L_law 198 = .ok (.aload_n 0, 1) := by decide +kernel
theorem d_L_law_199 : decode c_L_law 199 = .ok (.iload 4, 2) := by decide +kernel
theorem d_L_law_201 : decode c_L_law 201 = .ok (.iconst 1, 1) := by decide +kernel
theorem d_L_law_202 : decode c_L_law 202 = .ok (.iadd, 1) := by decide +kernel
theorem d_L_law_203 : decode c_L_law 203 = .ok (.iaload, 1) := by decide +kernel
theorem d_L_law_204 : decode c_L_law 204 = .ok (.aload_n 0, 1) := by decide +kernel
theorem d_L_law_205 : decode c_L_law 205 = .ok (.iload 4, 2) := by decide +kernel
theorem d_L_law_207 : decode c_L_law 207 = .ok (.iconst 2, 1) := by decide +kernel
theorem d_L_law_208 : decode c_L_law 208 = .ok (.iadd, 1) := by decide +kernel
theorem d_L_law_209 : decode c_L_law 209 = .ok (.iaload, 1) := by decide +kernel
theorem d_L_law_210 : decode c_L_law 210 = .ok (.invokevirtual 61, 3) := by decide +kernel
theorem d_L_law_213 : decode c_L_law 213 = .ok (.pop, 1) := by decide +kernel
theorem d_L_law_214 : decode c_L_law 214 = .ok (.aload_n 2, 1) := by decide +kernel
theorem d_L_law_215 : decode c_L_law 215 = .ok (.aload_n 0, 1) := by decide +kernel
theorem d_L_law_216 : decode c_L_law 216 = .ok (.iload 4, 2) := by decide +kernel
theorem d_L_law_218 : decode c_L_law 218 = .ok (.iconst 1, 1) := by decide +kernel
theorem d_L_law_219 : decode c_L_law 219 = .ok (.iadd, 1) := by decide +kernel
theorem d_L_law_220 : decode c_L_law 220 = .ok (.iaload, 1) := by decide +kernel
theorem d_L_law_221 : decode c_L_law 221 = .ok (.aload_n 0, 1) := by decide +kernel
theorem d_L_law_222 : decode c_L_law 222 = .ok (.iload 4, 2) := by decide +kernel
theorem d_L_law_224 : decode c_L_law 224 = .ok (.iconst 2, 1) := by decide +kernel
theorem d_L_law_225 : decode c_L_law 225 = .ok (.iadd, 1) := by decide +kernel
theorem d_L_law_226 : decode c_L_law 226 = .ok (.iaload, 1) := by decide +kernel
theorem d_L_law_227 : decode c_L_law 227 = .ok (.invokevirtual 64, 3) := by decide +kernel
theorem d_L_law_230 : decode c_L_law 230 = .ok (.pop, 1) := by decide +kernel
theorem d_L_law_231 : decode c_L_law 231 = .ok (.goto 382, 3) := by decide +kernel
theorem d_L_law_234 : decode c_L_law 234 = .ok (.aload_n 1, 1) := by decide +kernel
theorem d_L_law_235 : decode c_L_law 235 = .ok (.aload_n 0, 1) := by decide +kernel
theorem d_L_law_236 : decode c_L_law 236 = .ok (.iload 4, 2) := by decide +kernel
theorem d_L_law_238 : decode c_L_law 238 = .ok (.iconst 1, 1) := by decide +kernel
theorem d_L_law_239 : decode c_L_law 239 = .ok (.iadd, 1) := by decide +kernel
theorem d_L_law_240 : decode c_L_law 240 = .ok (.iaload, 1) := by decide +kernel
theorem d_L_law_241 : decode c_L_law 241 = .ok (.aload_n 0, 1) := by decide +kernel
theorem d_L_law_242 : decode c_L_law 242 = .ok (.iload 4, 2) := by decide +kernel
theorem d_L_law_244 : decode c_L_law 244 = .ok (.iconst 2, 1) := by decide +kernel
theorem d_L_law_245 : decode c_L_law 245 = .ok (.iadd, 1) := by decide +kernel
theorem d_L_law_246 : decode c_L_law 246 = .ok (.iaload, 1) := by decide +kernel
theorem d_L_law_247 : decode c_L_law 247 = .ok (.aload_n 3, 1) := by decide +kernel
theorem d_L_law_248 : decode c_L_law 248 = .ok (.invokestatic 65, 3) := by decide +kernel
theorem d_L_law_251 : decode c_L_law 251 = .ok (.istore 5, 2) := by decide +kernel
theorem d_L_law_253 : decode c_L_law 253 = .ok (.aload_n 2, 1) := by decide +kernel
theorem d_L_law_254 : decode c_L_law 254 = .ok (.aload_n 0, 1) := by decide +kernel
theorem d_L_law_255 : decode c_L_law 255 = .ok (.iload 4, 2) := by decide +kernel
theorem d_L_law_257 : decode c_L_law 257 = .ok (.iconst 1, 1) := by decide +kernel
theorem d_L_law_258 : decode c_L_law 258 = .ok (.iadd, 1) := by decide +kernel
theorem d_L_law_259 : decode c_L_law 259 = .ok (.iaload, 1) := by decide +kernel
theorem d_L_law_260 : decode c_L_law 260 = .ok (.aload_n 0, 1) := by decide +kernel
theorem d_L_law_261 : decode c_L_law 261 = .ok (.iload 4, 2) := by decide +kernel
theorem d_L_law_263 : decode c_L_law 263 = .ok (.iconst 2, 1) := by decide +kernel
theorem d_L_law_264 : decode c_L_law 264 = .ok (.iadd, 1) := by decide +kernel
theorem d_L_law_265 : decode c_L_law 265 = .ok (.iaload, 1) := by decide +kernel
theorem d_L_law_266 : decode c_L_law 266 = .ok (.invokevirtual 68, 3) := by decide +kernel
theorem d_L_law_269 : decode c_L_law 269 = .ok (.istore 6, 2) := by decide +kernel
theorem d_L_law_271 : decode c_L_law 271 = .ok (.goto 342, 3) := by decide +kernel
theorem d_L_law_274 : decode c_L_law 274 = .ok (.aload_n 1, 1) := by decide +kernel
theorem d_L_law_275 : decode c_L_law 275 = .ok (.aload_n 0, 1) := by decide +kernel
theorem d_L_law_276 : decode c_L_law 276 = .ok (.iload 4, 2) := by decide +kernel
theorem d_L_law_278 : decode c_L_law 278 = .ok (.iconst 1, 1) := by decide +kernel
theorem d_L_law_279 : decode c_L_law 279 = .ok (.iadd, 1) := by decide +kernel
theorem d_L_law_280 : decode c_L_law 280 = .ok (.iaload, 1) := by decide +kernel
theorem d_L_law_281 : decode c_L_law 281 = .ok (.aload_n 0, 1) := by decide +kernel
theorem d_L_law_282 : decode c_L_law 282 = .ok (.iload 4, 2) := by decide +kernel
theorem d_L_law_284 : decode c_L_law 284 = .ok (.iconst 2, 1) := by decide +kernel
theorem d_L_law_285 : decode c_L_law 285 = .ok (.iadd, 1) := by decide +kernel
theorem d_L_law_286 : decode c_L_law 286 = .ok (.iaload, 1) := by decide +kernel
theorem d_L_law_287 : decode c_L_law 287 = .ok (.aload_n 0, 1) := by decide +kernel
theorem d_L_law_288 : decode c_L_law 288 = .ok (.iload 4, 2) := by decide +kernel
theorem d_L_law_290 : decode c_L_law 290 = .ok (.iconst 3, 1) := by decide +kernel
theorem d_L_law_291 : decode c_L_law 291 = .ok (.iadd, 1) := by decide +kernel
theorem d_L_law_292 : decode c_L_law 292 = .ok (.iaload, 1) := by decide +kernel
theorem d_L_law_293 : decode c_L_law 293 = .ok (.aload_n 3, 1) := by decide +kernel
theorem d_L_law_294 : decode c_L_law 294 = .ok (.invokestatic 69, 3) := by decide +kernel
theorem d_L_law_297 : decode c_L_law 297 = .ok (.istore 5, 2) := by decide +kernel
theorem d_L_law_299 : decode c_L_law 299 = .ok (.aload_n 2, 1) := by decide +kernel
theorem d_L_law_300 : decode c_L_law 300 = .ok (.aload_n 0, 1) := by decide +kernel
theorem d_L_law_301 : decode c_L_law 301 = .ok (.iload 4, 2) := by decide +kernel
theorem d_L_law_303 : decode c_L_law 303 = .ok (.iconst 1, 1) := by decide +kernel
theorem d_L_law_304 : decode c_L_law 304 = .ok (.iadd, 1) := by decide +kernel
theorem d_L_law_305 : decode c_L_law 305 = .ok (.iaload, 1) := by decide +kernel
theorem d_L_law_306 : decode c_L_law 306 = .ok (.aload_n 0, 1) := by decide +kernel
theorem d_L_law_307 : decode c_L_law 307 = .ok (.iload 4, 2) := by decide +kernel
theorem d_L_law_309 : decode c_L_law 309 = .ok (.iconst 2, 1) := by decide +kernel
theorem d_L_law_310 : decode c_L_law 310 = .ok (.iadd, 1) := by decide +kernel
theorem d_L_law_311 : decode c_L_law 311 = .ok (.iaload, 1) := by decide +kernel
theorem d_L_law_312 : decode c_L_law 312 = .ok (.aload_n 0, 1) := by decide +kernel
theorem d_L_law_313 : decode c_L_law 313 = .ok (.iload 4, 2) := by decide +kernel
theorem d_L_law_315 : decode c_L_law 315 = .ok (.iconst 3, 1) := by decide +kernel
theorem d_L_law_316 : decode c_L_law 316 = .ok (.iadd, 1) := by decide +kernel
theorem d_L_law_317 : decode c_L_law 317 = .ok (.iaload, 1) := by decide +kernel
theorem d_L_law_318 : decode c_L_law 318 = .ok (.invokevirtual 71, 3) := by decide +kernel
theorem d_L_law_321 : decode c_L_law 321 = .ok (.istore 6, 2) := by decide +kernel
theorem d_L_law_323 : decode c_L_law 323 = .ok (.goto 290, 3) := by decide +kernel
theorem d_L_law_326 : decode c_L_law 326 = .ok (.aload_n 1, 1) := by decide +kernel
theorem d_L_law_327 : decode c_L_law 327 = .ok (.aload_n 0, 1) := by decide +kernel
theorem d_L_law_328 : decode c_L_law 328 = .ok (.iload 4, 2) := by decide +kernel
theorem d_L_law_330 : decode c_L_law 330 = .ok (.iconst 1, 1) := by decide +kernel
theorem d_L_law_331 : decode c_L_law 331 = .ok (.iadd, 1) := by decide +kernel
theorem d_L_law_332 : decode c_L_law 332 = .ok (.iaload, 1) := by decide +kernel
theorem d_L_law_333 : decode c_L_law 333 = .ok (.aload_n 3, 1) := by decide +kernel
theorem d_L_law_334 : decode c_L_law 334 = .ok (.invokestatic 72, 3) := by decide +kernel
theorem d_L_law_337 : decode c_L_law 337 = .ok (.istore 5, 2) := by decide +kernel
theorem d_L_law_339 : decode c_L_law 339 = .ok (.aload_n 2, 1) := by decide +kernel
theorem d_L_law_340 : decode c_L_law 340 = .ok (.aload_n 0, 1) := by decide +kernel
theorem d_L_law_341 : decode c_L_law 341 = .ok (.iload 4, 2) := by decide +kernel
theorem d_L_law_343 : decode c_L_law 343 = .ok (.iconst 1, 1) := by decide +kernel
theorem d_L_law_344 : decode c_L_law 344 = .ok (.iadd, 1) := by decide +kernel
theorem d_L_law_345 : decode c_L_law 345 = .ok (.iaload, 1) := by decide +kernel
theorem d_L_law_346 : decode c_L_law 346 = .ok (.invokevirtual 74, 3) := by decide +kernel
theorem d_L_law_349 : decode c_L_law 349 = .ok (.istore 6, 2) := by decide +kernel
theorem d_L_law_351 : decode c_L_law 351 = .ok (.goto 262, 3) := by decide +kernel
theorem d_L_law_354 : decode c_L_law 354 = .ok (.aload_n 1, 1) := by decide +kernel
theorem d_L_law_355 : decode c_L_law 355 = .ok (.aload_n 0, 1) := by decide +kernel
theorem d_L_law_356 : decode c_L_law 356 = .ok (.iload 4, 2) := by decide +kernel
theorem d_L_law_358 : decode c_L_law 358 = .ok (.iconst 1, 1) := by decide +kernel
theorem d_L_law_359 : decode c_L_law 359 = .ok (.iadd, 1) := by decide +kernel
theorem d_L_law_360 : decode c_L_law 360 = .ok (.iaload, 1) := by decide +kernel
theorem d_L_law_361 : decode c_L_law 361 = .ok (.aload_n 3, 1) := by decide +kernel
theorem d_L_law_362 : decode c_L_law 362 = .ok (.invokestatic 75, 3) := by decide +kernel
theorem d_L_law_365 : decode c_L_law 365 = .ok (.istore 5, 2) := by decide +kernel
theorem d_L_law_367 : decode c_L_law 367 = .ok (.aload_n 2, 1) := by decide +kernel
theorem d_L_law_368 : decode c_L_law 368 = .ok (.aload_n 0, 1) := by decide +kernel
theorem d_L_law_369 : decode c_L_law 369 = .ok (.iload 4, 2) := by decide +kernel
theorem d_L_law_371 : decode c_L_law 371 = .ok (.iconst 1, 1) := by decide +kernel
theorem d_L_law_372 : decode c_L_law 372 = .ok (.iadd, 1) := by decide +kernel
theorem d_L_law_373 : decode c_L_law 373 = .ok (.iaload, 1) := by decide +kernel
theorem d_L_law_374 : decode c_L_law 374 = .ok (.invokevirtual 77, 3) := by decide +kernel
theorem d_L_law_377 : decode c_L_law 377 = .ok (.istore 6, 2) := by decide +kernel
theorem d_L_law_379 : decode c_L_law 379 = .ok (.aload_n 2, 1) := by decide +kernel
theorem d_L_law_380 : decode c_L_law 380 = .ok (.invokevirtual 78, 3) := by decide +kernel
theorem d_L_law_383 : decode c_L_law 383 = .ok (.iload 5, 2) := by decide +kernel
theorem d_L_law_385 : decode c_L_law 385 = .ok (.if_icmp .eq 5, 3) := by decide +kernel
theorem d_L_law_388 : decode c_L_law 388 = .ok (.iconst 0, 1) := by decide +kernel
theorem d_L_law_389 : decode c_L_law 389 = .ok (.ireturn, 1) := by decide +kernel
theorem d_L_law_390 : decode c_L_law 390 = .ok (.iload 5, 2) := by decide +kernel
theorem d_L_law_392 : decode c_L_law 392 = .ok (.ifCond .ne 22, 3) := by decide +kernel
theorem d_L_law_395 : decode c_L_law 395 = .ok (.aload_n 3, 1) := by decide +kernel
theorem d_L_law_396 : decode c_L_law 396 = .ok (.iconst 0, 1) := by decide +kernel
theorem d_L_law_397 : decode c_L_law 397 = .ok (.laload, 1) := by decide +kernel
theorem d_L_law_398 : decode c_L_law 398 = .ok (.iload 6, 2) := by decide +kernel
theorem d_L_law_400 : decode c_L_law 400 = .ok (.ifCond .eq 7, 3) := by decide +kernel
theorem d_L_law_403 : decode c_L_law 403 = .ok (.lconst 1, 1) := by decide +kernel
theorem d_L_law_404 : decode c_L_law 404 = .ok (.goto 4, 3) := by decide +kernel
theorem d_L_law_407 : decode c_L_law 407 = .ok (.lconst 0, 1) := by decide +kernel
theorem d_L_law_408 : decode c_L_law 408 = .ok (.lcmp, 1) := by decide +kernel
theorem d_L_law_409 : decode c_L_law 409 = .ok (.ifCond .eq 5, 3) := by decide +kernel
theorem d_L_law_412 : decode c_L_law 412 = .ok (.iconst 0, 1) := by decide +kernel
theorem d_L_law_413 : decode c_L_law 413 = .ok (.ireturn, 1) := by decide +kernel
theorem d_L_law_414 : decode c_L_law 414 = .ok (.goto 199, 3) := by decide +kernel
theorem d_L_law_417 : decode c_L_law 417 = .ok (.aload_n 1, 1) := by decide +kernel
theorem d_L_law_418 : decode c_L_law 418 = .ok (.aload_n 0, 1) := by decide +kernel
theorem d_L_law_419 : decode c_L_law 419 = .ok (.iload 4, 2) := by decide +kernel
theorem d_L_law_421 : decode c_L_law 421 = .ok (.iconst 1, 1) := by decide +kernel
theorem d_L_law_422 : decode c_L_law 422 = .ok (.iadd, 1) := by decide +kernel
theorem d_L_law_423 : decode c_L_law 423 = .ok (.iaload, 1) := by decide +kernel
theorem d_L_law_424 : decode c_L_law 424 = .ok (.aload_n 0, 1) := by decide +kernel
theorem d_L_law_425 : decode c_L_law 425 = .ok (.iload 4, 2) := by decide +kernel
theorem d_L_law_427 : decode c_L_law 427 = .ok (.iconst 2, 1) := by decide +kernel
theorem d_L_law_428 : decode c_L_law 428 = .ok (.iadd, 1) := by decide +kernel
theorem d_L_law_429 : decode c_L_law 429 = .ok (.iaload, 1) := by decide +kernel
theorem d_L_law_430 : decode c_L_law 430 = .ok (.aload_n 3, 1) := by decide +kernel
theorem d_L_law_431 : decode c_L_law 431 = .ok (.invokestatic 82, 3) := by decide +kernel
theorem d_L_law_434 : decode c_L_law 434 = .ok (.istore 5, 2) := by decide +kernel
theorem d_L_law_436 : decode c_L_law 436 = .ok (.aload_n 2, 1) := by decide +kernel
theorem d_L_law_437 : decode c_L_law 437 = .ok (.aload_n 0, 1) := by decide +kernel
theorem d_L_law_438 : decode c_L_law 438 = .ok (.iload 4, 2) := by decide +kernel
theorem d_L_law_440 : decode c_L_law 440 = .ok (.iconst 1, 1) := by decide +kernel
theorem d_L_law_441 : decode c_L_law 441 = .ok (.iadd, 1) := by decide +kernel
theorem d_L_law_442 : decode c_L_law 442 = .ok (.iaload, 1) := by decide +kernel
theorem d_L_law_443 : decode c_L_law 443 = .ok (.aload_n 0, 1) := by decide +kernel
theorem d_L_law_444 : decode c_L_law 444 = .ok (.iload 4, 2) := by decide +kernel
theorem d_L_law_446 : decode c_L_law 446 = .ok (.iconst 2, 1) := by decide +kernel
theorem d_L_law_447 : decode c_L_law 447 = .ok (.iadd, 1) := by decide +kernel
theorem d_L_law_448 : decode c_L_law 448 = .ok (.iaload, 1) := by decide +kernel
theorem d_L_law_449 : decode c_L_law 449 = .ok (.invokevirtual 84, 3) := by decide +kernel
theorem d_L_law_452 : decode c_L_law 452 = .ok (.istore 6, 2) := by decide +kernel
theorem d_L_law_454 : decode c_L_law 454 = .ok (.goto 159, 3) := by decide +kernel
theorem d_L_law_457 : decode c_L_law 457 = .ok (.aload_n 1, 1) := by decide +kernel
theorem d_L_law_458 : decode c_L_law 458 = .ok (.aload_n 0, 1) := by decide +kernel
theorem d_L_law_459 : decode c_L_law 459 = .ok (.iload 4, 2) := by decide +kernel
theorem d_L_law_461 : decode c_L_law 461 = .ok (.iconst 1, 1) := by decide +kernel
theorem d_L_law_462 : decode c_L_law 462 = .ok (.iadd, 1) := by decide +kernel
theorem d_L_law_463 : decode c_L_law 463 = .ok (.iaload, 1) := by decide +kernel
theorem d_L_law_464 : decode c_L_law 464 = .ok (.aload_n 0, 1) := by decide +kernel
theorem d_L_law_465 : decode c_L_law 465 = .ok (.iload 4, 2) := by decide +kernel
theorem d_L_law_467 : decode c_L_law 467 = .ok (.iconst 2, 1) := by decide +kernel
theorem d_L_law_468 : decode c_L_law 468 = .ok (.iadd, 1) := by decide +kernel
theorem d_L_law_469 : decode c_L_law 469 = .ok (.iaload, 1) := by decide +kernel
theorem d_L_law_470 : decode c_L_law 470 = .ok (.invokevirtual 85, 3) := by decide +kernel
theorem d_L_law_473 : decode c_L_law 473 = .ok (.pop, 1) := by decide +kernel
theorem d_L_law_474 : decode c_L_law 474 = .ok (.aload_n 2, 1) := by decide +kernel
theorem d_L_law_475 : decode c_L_law 475 = .ok (.aload_n 0, 1) := by decide +kernel
theorem d_L_law_476 : decode c_L_law 476 = .ok (.iload 4, 2) := by decide +kernel
theorem d_L_law_478 : decode c_L_law 478 = .ok (.iconst 1, 1) := by decide +kernel
theorem d_L_law_479 : decode c_L_law 479 = .ok (.iadd, 1) := by decide +kernel
theorem d_L_law_480 : decode c_L_law 480 = .ok (.iaload, 1) := by decide +kernel
theorem d_L_law_481 : decode c_L_law 481 = .ok (.aload_n 0, 1) := by decide +kernel
theorem d_L_law_482 : decode c_L_law 482 = .ok (.iload 4, 2) := by decide +kernel
theorem d_L_law_484 : decode c_L_law 484 = .ok (.iconst 2, 1) := by decide +kernel
theorem d_L_law_485 : decode c_L_law 485 = .ok (.iadd, 1) := by decide +kernel
theorem d_L_law_486 : decode c_L_law 486 = .ok (.iaload, 1) := by decide +kernel
theorem d_L_law_487 : decode c_L_law 487 = .ok (.invokevirtual 88, 3) := by decide +kernel
theorem d_L_law_490 : decode c_L_law 490 = .ok (.pop, 1) := by decide +kernel
theorem d_L_law_491 : decode c_L_law 491 = .ok (.goto 122, 3) := by decide +kernel
theorem d_L_law_494 : decode c_L_law 494 = .ok (.aload_n 1, 1) := by decide +kernel
theorem d_L_law_495 : decode c_L_law 495 = .ok (.aload_n 0, 1) := by decide +kernel
theorem d_L_law_496 : decode c_L_law 496 = .ok (.iload 4, 2) := by decide +kernel
theorem d_L_law_498 : decode c_L_law 498 = .ok (.iconst 1, 1) := by decide +kernel
theorem d_L_law_499 : decode c_L_law 499 = .ok (.iadd, 1) := by decide +kernel
theorem d_L_law_500 : decode c_L_law 500 = .ok (.iaload, 1) := by decide +kernel
theorem d_L_law_501 : decode c_L_law 501 = .ok (.invokevirtual 89, 3) := by decide +kernel
theorem d_L_law_504 : decode c_L_law 504 = .ok (.pop, 1) := by decide +kernel
theorem d_L_law_505 : decode c_L_law 505 = .ok (.aload_n 2, 1) := by decide +kernel
theorem d_L_law_506 : decode c_L_law 506 = .ok (.aload_n 0, 1) := by decide +kernel
theorem d_L_law_507 : decode c_L_law 507 = .ok (.iload 4, 2) := by decide +kernel
theorem d_L_law_509 : decode c_L_law 509 = .ok (.iconst 1, 1) := by decide +kernel
theorem d_L_law_510 : decode c_L_law 510 = .ok (.iadd, 1) := by decide +kernel
theorem d_L_law_511 : decode c_L_law 511 = .ok (.iaload, 1) := by decide +kernel
theorem d_L_law_512 : decode c_L_law 512 = .ok (.invokevirtual 92, 3) := by decide +kernel
theorem d_L_law_515 : decode c_L_law 515 = .ok (.pop, 1) := by decide +kernel
theorem d_L_law_516 : decode c_L_law 516 = .ok (.goto 97, 3) := by decide +kernel
theorem d_L_law_519 : decode c_L_law 519 = .ok (.aload_n 1, 1) := by decide +kernel
theorem d_L_law_520 : decode c_L_law 520 = .ok (.aload_n 0, 1) := by decide +kernel
theorem d_L_law_521 : decode c_L_law 521 = .ok (.iload 4, 2) := by decide +kernel
theorem d_L_law_523 : decode c_L_law 523 = .ok (.iconst 1, 1) := by decide +kernel
theorem d_L_law_524 : decode c_L_law 524 = .ok (.iadd, 1) := by decide +kernel
theorem d_L_law_525 : decode c_L_law 525 = .ok (.iaload, 1) := by decide +kernel
theorem d_L_law_526 : decode c_L_law 526 = .ok (.i2l, 1) := by decide +kernel
theorem d_L_law_527 : decode c_L_law 527 = .ok (.bipush 32, 2) := by decide +kernel
theorem d_L_law_529 : decode c_L_law 529 = .ok (.lshl, 1) := by decide +kernel
theorem d_L_law_530 : decode c_L_law 530 = .ok (.aload_n 0, 1) := by decide +kernel
theorem d_L_law_531 : decode c_L_law 531 = .ok (.iload 4, 2) := by decide +kernel
theorem d_L_law_533 : decode c_L_law 533 = .ok (.iconst 2, 1) := by decide +kernel
theorem d_L_law_534 : decode c_L_law 534 = .ok (.iadd, 1) := by decide +kernel
theorem d_L_law_535 : decode c_L_law 535 = .ok (.iaload, 1) := by decide +kernel
theorem d_L_law_536 : decode c_L_law 536 = .ok (.i2l, 1) := by decide +kernel
theorem d_L_law_537 : decode c_L_law 537 = .ok (.ldc2_w 93, 3) := by decide +kernel
theorem d_L_law_540 : decode c_L_law 540 = .ok (.land, 1) := by decide +kernel
theorem d_L_law_541 : decode c_L_law 541 = .ok (.lor, 1) := by decide +kernel
theorem d_L_law_542 : decode c_L_law 542 = .ok (.aload_n 0, 1) := by decide +kernel
theorem d_L_law_543 : decode c_L_law 543 = .ok (.iload 4, 2) := by decide +kernel
theorem d_L_law_545 : decode c_L_law 545 = .ok (.iconst 3, 1) := by decide +kernel
theorem d_L_law_546 : decode c_L_law 546 = .ok (.iadd, 1) := by decide +kernel
theorem d_L_law_547 : decode c_L_law 547 = .ok (.iaload, 1) := by decide +kernel
theorem d_L_law_548 : decode c_L_law 548 = .ok (.invokevirtual 95, 3) := by decide +kernel
theorem d_L_law_551 : decode c_L_law 551 = .ok (.pop, 1) := by decide +kernel
theorem d_L_law_552 : decode c_L_law 552 = .ok (.aload_n 2, 1) := by decide +kernel
theorem d_L_law_553 : decode c_L_law 553 = .ok (.aload_n 0, 1) := by decide +kernel
theorem d_L_law_554 : decode c_L_law 554 = .ok (.iload 4, 2) := by decide +kernel
theorem d_L_law_556 : decode c_L_law 556 = .ok (.iconst 1, 1) := by decide +kernel
theorem d_L_law_557 : decode c_L_law 557 = .ok (.iadd, 1) := by decide +kernel
theorem d_L_law_558 : decode c_L_law 558 = .ok (.iaload, 1) := by decide +kernel
theorem d_L_law_559 : decode c_L_law 559 = .ok (.i2l, 1) := by decide +kernel
theorem d_L_law_560 : decode c_L_law 560 = .ok (.bipush 32, 2) := by decide +kernel
theorem d_L_law_562 : decode c_L_law 562 = .ok (.lshl, 1) := by decide +kernel
theorem d_L_law_563 : decode c_L_law 563 = .ok (.aload_n 0, 1) := by decide +kernel
theorem d_L_law_564 : decode c_L_law 564 = .ok (.iload 4, 2) := by decide +kernel
theorem d_L_law_566 : decode c_L_law 566 = .ok (.iconst 2, 1) := by decide +kernel
theorem d_L_law_567 : decode c_L_law 567 = .ok (.iadd, 1) := by decide +kernel
theorem d_L_law_568 : decode c_L_law 568 = .ok (.iaload, 1) := by decide +kernel
theorem d_L_law_569 : decode c_L_law 569 = .ok (.i2l, 1) := by decide +kernel
theorem d_L_law_570 : decode c_L_law 570 = .ok (.ldc2_w 93, 3) := by decide +kernel
theorem d_L_law_573 : decode c_L_law 573 = .ok (.land, 1) := by decide +kernel
theorem d_L_law_574 : decode c_L_law 574 = .ok (.lor, 1) := by decide +kernel
theorem d_L_law_575 : decode c_L_law 575 = .ok (.aload_n 0, 1) := by decide +kernel
theorem d_L_law_576 : decode c_L_law 576 = .ok (.iload 4, 2) := by decide +kernel
theorem d_L_law_578 : decode c_L_law 578 = .ok (.iconst 3, 1) := by decide +kernel
theorem d_L_law_579 : decode c_L_law 579 = .ok (.iadd, 1) := by decide +kernel
theorem d_L_law_580 : decode c_L_law 580 = .ok (.iaload, 1) := by decide +kernel
theorem d_L_law_581 : decode c_L_law 581 = .ok (.invokevirtual 99, 3) := by decide +kernel
theorem d_L_law_584 : decode c_L_law 584 = .ok (.pop, 1) := by decide +kernel
theorem d_L_law_585 : decode c_L_law 585 = .ok (.goto 28, 3) := by decide +kernel
theorem d_L_law_588 : decode c_L_law 588 = .ok (.aload_n 1, 1) := by decide +kernel
theorem d_L_law_589 : decode c_L_law 589 = .ok (.aload_n 0, 1) := by decide +kernel
theorem d_L_law_590 : decode c_L_law 590 = .ok (.iload 4, 2) := by decide +kernel
theorem d_L_law_592 : decode c_L_law 592 = .ok (.iconst 1, 1) := by decide +kernel
theorem d_L_law_593 : decode c_L_law 593 = .ok (.iadd, 1) := by decide +kernel
theorem d_L_law_594 : decode c_L_law 594 = .ok (.iaload, 1) := by decide +kernel
theorem d_L_law_595 : decode c_L_law 595 = .ok (.invokevirtual 100, 3) := by decide +kernel
theorem d_L_law_598 : decode c_L_law 598 = .ok (.pop, 1) := by decide +kernel
theorem d_L_law_599 : decode c_L_law 599 = .ok (.aload_n 2, 1) := by decide +kernel
theorem d_L_law_600 : decode c_L_law 600 = .ok (.aload_n 0, 1) := by decide +kernel
theorem d_L_law_601 : decode c_L_law 601 = .ok (.iload 4, 2) := by decide +kernel
theorem d_L_law_603 : decode c_L_law 603 = .ok (.iconst 1, 1) := by decide +kernel
theorem d_L_law_604 : decode c_L_law 604 = .ok (.iadd, 1) := by decide +kernel
theorem d_L_law_605 : decode c_L_law 605 = .ok (.iaload, 1) := by decide +kernel
theorem d_L_law_606 : decode c_L_law 606 = .ok (.invokevirtual 103, 3) := by decide +kernel
theorem d_L_law_609 : decode c_L_law 609 = .ok (.pop, 1) := by decide +kernel
theorem d_L_law_610 : decode c_L_law 610 = .ok (.goto 3, 3) := by decide +kernel
theorem d_L_law_613 : decode c_L_law 613 = .ok (.iinc 4 4, 3) := by decide +kernel
theorem d_L_law_616 : decode c_L_law 616 = .ok (.goto (-593), 3) := by decide +kernel
theorem d_L_law_619 : decode c_L_law 619 = .ok (.iconst 1, 1) := by decide +kernel
theorem d_L_law_620 : decode c_L_law 620 = .ok (.ireturn, 1) := by decide +kernel
