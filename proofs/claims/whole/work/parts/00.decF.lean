/-! what each instruction is -/
theorem dc_LW_law_0 : decode code 0 = .ok (.new 7, 3) := by decide +kernel
theorem dc_LW_law_3 : decode code 3 = .ok (.dup, 1) := by decide +kernel
theorem dc_LW_law_4 : decode code 4 = .ok (.invokespecial 9, 3) := by decide +kernel
theorem dc_LW_law_7 : decode code 7 = .ok (.astore_n 1, 1) := by decide +kernel
theorem dc_LW_law_8 : decode code 8 = .ok (.new 10, 3) := by decide +kernel
theorem dc_LW_law_11 : decode code 11 = .ok (.dup, 1) := by decide +kernel
theorem dc_LW_law_12 : decode code 12 = .ok (.invokespecial 12, 3) := by decide +kernel
theorem dc_LW_law_15 : decode code 15 = .ok (.astore_n 2, 1) := by decide +kernel
theorem dc_LW_law_16 : decode code 16 = .ok (.iconst 0, 1) := by decide +kernel
theorem dc_LW_law_17 : decode code 17 = .ok (.istore_n 3, 1) := by decide +kernel
theorem dc_LW_law_18 : decode code 18 = .ok (.iload_n 3, 1) := by decide +kernel
theorem dc_LW_law_19 : decode code 19 = .ok (.aload_n 0, 1) := by decide +kernel
theorem dc_LW_law_20 : decode code 20 = .ok (.arraylength, 1) := by decide +kernel
theorem dc_LW_law_21 : decode code 21 = .ok (.iconst 5, 1) := by decide +kernel
theorem dc_LW_law_22 : decode code 22 = .ok (.isub, 1) := by decide +kernel
theorem dc_LW_law_23 : decode code 23 = .ok (.if_icmp .gt 523, 3) := by decide +kernel
theorem dc_LW_law_26 : decode code 26 = .ok (.aload_n 0, 1) := by decide +kernel
theorem dc_LW_law_27 : decode code 27 = .ok (.iload_n 3, 1) := by decide +kernel
theorem dc_LW_law_28 : decode code 28 = .ok (.iaload, 1) := by decide +kernel
theorem dc_LW_law_29 : decode code 29 = .ok (.bipush 15, 2) := by decide +kernel
theorem dc_LW_law_31 : decode code 31 = .ok (.iand, 1) := by decide +kernel
theorem dc_LW_law_32 : decode code 32 = .ok (.tableswitch 508 0 15 #[80, 113, 146, 169, 182, 205, 238, 251, 264, 297, 382, 405, 428, 441, 454, 497], 80) := by decide +kernel
theorem dc_LW_law_112 : decode code 112 = .ok (.aload_n 1, 1) := by decide +kernel
theorem dc_LW_law_113 : decode code 113 = .ok (.aload_n 0, 1) := by decide +kernel
theorem dc_LW_law_114 : decode code 114 = .ok (.iload_n 3, 1) := by decide +kernel
theorem dc_LW_law_115 : decode code 115 = .ok (.iconst 1, 1) := by decide +kernel
theorem dc_LW_law_116 : decode code 116 = .ok (.iadd, 1) := by decide +kernel
theorem dc_LW_law_117 : decode code 117 = .ok (.iaload, 1) := by decide +kernel
theorem dc_LW_law_118 : decode code 118 = .ok (.aload_n 0, 1) := by decide +kernel
theorem dc_LW_law_119 : decode code 119 = .ok (.iload_n 3, 1) := by decide +kernel
theorem dc_LW_law_120 : decode code 120 = .ok (.iconst 2, 1) := by decide +kernel
theorem dc_LW_law_121 : decode code 121 = .ok (.iadd, 1) := by decide +kernel
theorem dc_LW_law_122 : decode code 122 = .ok (.iaload, 1) := by decide +kernel
theorem dc_LW_law_123 : decode code 123 = .ok (.invokevirtual 13, 3) := by decide +kernel
theorem dc_LW_law_126 : decode code 126 = .ok (.aload_n 2, 1) := by decide +kernel
theorem dc_LW_law_127 : decode code 127 = .ok (.aload_n 0, 1) := by decide +kernel
theorem dc_LW_law_128 : decode code 128 = .ok (.iload_n 3, 1) := by decide +kernel
theorem dc_LW_law_129 : decode code 129 = .ok (.iconst 1, 1) := by decide +kernel
theorem dc_LW_law_130 : decode code 130 = .ok (.iadd, 1) := by decide +kernel
theorem dc_LW_law_131 : decode code 131 = .ok (.iaload, 1) := by decide +kernel
theorem dc_LW_law_132 : decode code 132 = .ok (.aload_n 0, 1) := by decide +kernel
theorem dc_LW_law_133 : decode code 133 = .ok (.iload_n 3, 1) := by decide +kernel
theorem dc_LW_law_134 : decode code 134 = .ok (.iconst 2, 1) := by decide +kernel
theorem dc_LW_law_135 : decode code 135 = .ok (.iadd, 1) := by decide +kernel
theorem dc_LW_law_136 : decode code 136 = .ok (.iaload, 1) := by decide +kernel
theorem dc_LW_law_137 : decode code 137 = .ok (.invokevirtual 17, 3) := by decide +kernel
theorem dc_LW_law_140 : decode code 140 = .ok (.if_icmp .eq 400, 3) := by decide +kernel
theorem dc_LW_law_143 : decode code 143 = .ok (.iconst 0, 1) := by decide +kernel
theorem dc_LW_law_144 : decode code 144 = .ok (.ireturn, 1) := by decide +kernel
theorem dc_LW_law_145 : decode code 145 = .ok (.aload_n 1, 1) := by decide +kernel
theorem dc_LW_law_146 : decode code 146 = .ok (.aload_n 0, 1) := by decide +kernel
theorem dc_LW_law_147 : decode code 147 = .ok (.iload_n 3, 1) := by decide +kernel
theorem dc_LW_law_148 : decode code 148 = .ok (.iconst 1, 1) := by decide +kernel
theorem dc_LW_law_149 : decode code 149 = .ok (.iadd, 1) := by decide +kernel
theorem dc_LW_law_150 : decode code 150 = .ok (.iaload, 1) := by decide +kernel
theorem dc_LW_law_151 : decode code 151 = .ok (.aload_n 0, 1) := by decide +kernel
theorem dc_LW_law_152 : decode code 152 = .ok (.iload_n 3, 1) := by decide +kernel
theorem dc_LW_law_153 : decode code 153 = .ok (.iconst 2, 1) := by decide +kernel
theorem dc_LW_law_154 : decode code 154 = .ok (.iadd, 1) := by decide +kernel
theorem dc_LW_law_155 : decode code 155 = .ok (.iaload, 1) := by decide +kernel
theorem dc_LW_law_156 : decode code 156 = .ok (.invokevirtual 18, 3) := by decide +kernel
theorem dc_LW_law_159 : decode code 159 = .ok (.aload_n 2, 1) := by decide +kernel
theorem dc_LW_law_160 : decode code 160 = .ok (.aload_n 0, 1) := by decide +kernel
theorem dc_LW_law_161 : decode code 161 = .ok (.iload_n 3, 1) := by decide +kernel
theorem dc_LW_law_162 : decode code 162 = .ok (.iconst 1, 1) := by decide +kernel
theorem dc_LW_law_163 : decode code 163 = .ok (.iadd, 1) := by decide +kernel
theorem dc_LW_law_164 : decode code 164 = .ok (.iaload, 1) := by decide +kernel
theorem dc_LW_law_165 : decode code 165 = .ok (.aload_n 0, 1) := by decide +kernel
theorem dc_LW_law_166 : decode code 166 = .ok (.iload_n 3, 1) := by decide +kernel
theorem dc_LW_law_167 : decode code 167 = .ok (.iconst 2, 1) := by decide +kernel
theorem dc_LW_law_168 : decode code 168 = .ok (.iadd, 1) := by decide +kernel
theorem dc_LW_law_169 : decode code 169 = .ok (.iaload, 1) := by decide +kernel
theorem dc_LW_law_170 : decode code 170 = .ok (.invokevirtual 21, 3) := by decide +kernel
theorem dc_LW_law_173 : decode code 173 = .ok (.if_icmp .eq 367, 3) := by decide +kernel
theorem dc_LW_law_176 : decode code 176 = .ok (.iconst 0, 1) := by decide +kernel
theorem dc_LW_law_177 : decode code 177 = .ok (.ireturn, 1) := by decide +kernel
theorem dc_LW_law_178 : decode code 178 = .ok (.aload_n 1, 1) := by decide +kernel
theorem dc_LW_law_179 : decode code 179 = .ok (.aload_n 0, 1) := by decide +kernel
theorem dc_LW_law_180 : decode code 180 = .ok (.iload_n 3, 1) := by decide +kernel
theorem dc_LW_law_181 : decode code 181 = .ok (.iconst 1, 1) := by decide +kernel
theorem dc_LW_law_182 : decode code 182 = .ok (.iadd, 1) := by decide +kernel
theorem dc_LW_law_183 : decode code 183 = .ok (.iaload, 1) := by decide +kernel
theorem dc_LW_law_184 : decode code 184 = .ok (.invokevirtual 22, 3) := by decide +kernel
theorem dc_LW_law_187 : decode code 187 = .ok (.aload_n 2, 1) := by decide +kernel
theorem dc_LW_law_188 : decode code 188 = .ok (.aload_n 0, 1) := by decide +kernel
theorem dc_LW_law_189 : decode code 189 = .ok (.iload_n 3, 1) := by decide +kernel
theorem dc_LW_law_190 : decode code 190 = .ok (.iconst 1, 1) := by decide +kernel
theorem dc_LW_law_191 : decode code 191 = .ok (.iadd, 1) := by decide +kernel
theorem dc_LW_law_192 : decode code 192 = .ok (.iaload, 1) := by decide +kernel
theorem dc_LW_law_193 : decode code 193 = .ok (.invokevirtual 26, 3) := by decide +kernel
theorem dc_LW_law_196 : decode code 196 = .ok (.if_icmp .eq 344, 3) := by decide +kernel
theorem dc_LW_law_199 : decode code 199 = .ok (.iconst 0, 1) := by decide +kernel
theorem dc_LW_law_200 : decode code 200 = .ok (.ireturn, 1) := by decide +kernel
theorem dc_LW_law_201 : decode code 201 = .ok (.aload_n 1, 1) := by decide +kernel
theorem dc_LW_law_202 : decode code 202 = .ok (.invokevirtual 27, 3) := by decide +kernel
theorem dc_LW_law_205 : decode code 205 = .ok (.aload_n 2, 1) := by decide +kernel
theorem dc_LW_law_206 : decode code 206 = .ok (.invokevirtual 31, 3) := by decide +kernel
theorem dc_LW_law_209 : decode code 209 = .ok (.if_icmp .eq 331, 3) := by decide +kernel
theorem dc_LW_law_212 : decode code 212 = .ok (.iconst 0, 1) := by decide +kernel
theorem dc_LW_law_213 : decode code 213 = .ok (.ireturn, 1) := by decide +kernel
theorem dc_LW_law_214 : decode code 214 = .ok (.aload_n 1, 1) := by decide +kernel
theorem dc_LW_law_215 : decode code 215 = .ok (.aload_n 0, 1) := by decide +kernel
theorem dc_LW_law_216 : decode code 216 = .ok (.iload_n 3, 1) := by decide +kernel
theorem dc_LW_law_217 : decode code 217 = .ok (.iconst 1, 1) := by decide +kernel
theorem dc_LW_law_218 : decode code 218 = .ok (.iadd, 1) := by decide +kernel
theorem dc_LW_law_219 : decode code 219 = .ok (.iaload, 1) := by decide +kernel
theorem dc_LW_law_220 : decode code 220 = .ok (.invokevirtual 32, 3) := by decide +kernel
theorem dc_LW_law_223 : decode code 223 = .ok (.aload_n 2, 1) := by decide +kernel
theorem dc_LW_law_224 : decode code 224 = .ok (.aload_n 0, 1) := by decide +kernel
theorem dc_LW_law_225 : decode code 225 = .ok (.iload_n 3, 1) := by decide +kernel
theorem dc_LW_law_226 : decode code 226 = .ok (.iconst 1, 1) := by decide +kernel
theorem dc_LW_law_227 : decode code 227 = .ok (.iadd, 1) := by decide +kernel
theorem dc_LW_law_228 : decode code 228 = .ok (.iaload, 1) := by decide +kernel
theorem dc_LW_law_229 : decode code 229 = .ok (.invokevirtual 36, 3) := by decide +kernel
theorem dc_LW_law_232 : decode code 232 = .ok (.if_icmp .eq 308, 3) := by decide +kernel
theorem dc_LW_law_235 : decode code 235 = .ok (.iconst 0, 1) := by decide +kernel
theorem dc_LW_law_236 : decode code 236 = .ok (.ireturn, 1) := by decide +kernel
theorem dc_LW_law_237 : decode code 237 = .ok (.aload_n 1, 1) := by decide +kernel
theorem dc_LW_law_238 : decode code 238 = .ok (.aload_n 0, 1) := by decide +kernel
theorem dc_LW_law_239 : decode code 239 = .ok (.iload_n 3, 1) := by decide +kernel
theorem dc_LW_law_240 : decode code 240 = .ok (.iconst 1, 1) := by decide +kernel
theorem dc_LW_law_241 : decode code 241 = .ok (.iadd, 1) := by decide +kernel
theorem dc_LW_law_242 : decode code 242 = .ok (.iaload, 1) := by decide +kernel
theorem dc_LW_law_243 : decode code 243 = .ok (.aload_n 0, 1) := by decide +kernel
theorem dc_LW_law_244 : decode code 244 = .ok (.iload_n 3, 1) := by decide +kernel
theorem dc_LW_law_245 : decode code 245 = .ok (.iconst 2, 1) := by decide +kernel
theorem dc_LW_law_246 : decode code 246 = .ok (.iadd, 1) := by decide +kernel
theorem dc_LW_law_247 : decode code 247 = .ok (.iaload, 1) := by decide +kernel
theorem dc_LW_law_248 : decode code 248 = .ok (.invokevirtual 37, 3) := by decide +kernel
theorem dc_LW_law_251 : decode code 251 = .ok (.aload_n 2, 1) := by decide +kernel
theorem dc_LW_law_252 : decode code 252 = .ok (.aload_n 0, 1) := by decide +kernel
theorem dc_LW_law_253 : decode code 253 = .ok (.iload_n 3, 1) := by decide +kernel
theorem dc_LW_law_254 : decode code 254 = .ok (.iconst 1, 1) := by decide +kernel
theorem dc_LW_law_255 : decode code 255 = .ok (.iadd, 1) := by decide +kernel
theorem dc_LW_law_256 : decode code 256 = .ok (.iaload, 1) := by decide +kernel
theorem dc_LW_law_257 : decode code 257 = .ok (.aload_n 0, 1) := by decide +kernel
theorem dc_LW_law_258 : decode code 258 = .ok (.iload_n 3, 1) := by decide +kernel
theorem dc_LW_law_259 : decode code 259 = .ok (.iconst 2, 1) := by decide +kernel
theorem dc_LW_law_260 : decode code 260 = .ok (.iadd, 1) := by decide +kernel
theorem dc_LW_law_261 : decode code 261 = .ok (.iaload, 1) := by decide +kernel
theorem dc_LW_law_262 : decode code 262 = .ok (.invokevirtual 41, 3) := by decide +kernel
theorem dc_LW_law_265 : decode code 265 = .ok (.if_icmp .eq 275, 3) := by decide +kernel
theorem dc_LW_law_268 : decode code 268 = .ok (.iconst 0, 1) := by decide +kernel
theorem dc_LW_law_269 : decode code 269 = .ok (.ireturn, 1) := by decide +kernel
theorem dc_LW_law_270 : decode code 270 = .ok (.aload_n 1, 1) := by decide +kernel
theorem dc_LW_law_271 : decode code 271 = .ok (.invokevirtual 42, 3) := by decide +kernel
theorem dc_LW_law_274 : decode code 274 = .ok (.aload_n 2, 1) := by decide +kernel
theorem dc_LW_law_275 : decode code 275 = .ok (.invokevirtual 45, 3) := by decide +kernel
theorem dc_LW_law_278 : decode code 278 = .ok (.if_icmp .eq 262, 3) := by decide +kernel
theorem dc_LW_law_281 : decode code 281 = .ok (.iconst 0, 1) := by decide +kernel
theorem dc_LW_law_282 : decode code 282 = .ok (.ireturn, 1) := by decide +kernel
theorem dc_LW_law_283 : decode code 283 = .ok (.aload_n 1, 1) := by decide +kernel
theorem dc_LW_law_284 : decode code 284 = .ok (.invokevirtual 46, 3) := by decide +kernel
theorem dc_LW_law_287 : decode code 287 = .ok (.aload_n 2, 1) := by decide +kernel
theorem dc_LW_law_288 : decode code 288 = .ok (.invokevirtual 49, 3) := by decide +kernel
theorem dc_LW_law_291 : decode code 291 = .ok (.if_icmp .eq 249, 3) := by decide +kernel
theorem dc_LW_law_294 : decode code 294 = .ok (.iconst 0, 1) := by decide +kernel
theorem dc_LW_law_295 : decode code 295 = .ok (.ireturn, 1) := by decide +kernel
theorem dc_LW_law_296 : decode code 296 = .ok (.aload_n 1, 1) := by decide +kernel
theorem dc_LW_law_297 : decode code 297 = .ok (.aload_n 0, 1) := by decide +kernel
theorem dc_LW_law_298 : decode code 298 = .ok (.iload_n 3, 1) := by decide +kernel
theorem dc_LW_law_299 : decode code 299 = .ok (.iconst 1, 1) := by decide +kernel
theorem dc_LW_law_300 : decode code 300 = .ok (.iadd, 1) := by decide +kernel
theorem dc_LW_law_301 : decode code 301 = .ok (.iaload, 1) := by decide +kernel
theorem dc_LW_law_302 : decode code 302 = .ok (.aload_n 0, 1) := by decide +kernel
theorem dc_LW_law_303 : decode code 303 = .ok (.iload_n 3, 1) := by decide +kernel
theorem dc_LW_law_304 : decode code 304 = .ok (.iconst 2, 1) := by decide +kernel
theorem dc_LW_law_305 : decode code 305 = .ok (.iadd, 1) := by decide +kernel
theorem dc_LW_law_306 : decode code 306 = .ok (.iaload, 1) := by decide +kernel
theorem dc_LW_law_307 : decode code 307 = .ok (.invokevirtual 50, 3) := by decide +kernel
theorem dc_LW_law_310 : decode code 310 = .ok (.aload_n 2, 1) := by decide +kernel
theorem dc_LW_law_311 : decode code 311 = .ok (.aload_n 0, 1) := by decide +kernel
theorem dc_LW_law_312 : decode code 312 = .ok (.iload_n 3, 1) := by decide +kernel
theorem dc_LW_law_313 : decode code 313 = .ok (.iconst 1, 1) := by decide +kernel
theorem dc_LW_law_314 : decode code 314 = .ok (.iadd, 1) := by decide +kernel
theorem dc_LW_law_315 : decode code 315 = .ok (.iaload, 1) := by decide +kernel
theorem dc_LW_law_316 : decode code 316 = .ok (.aload_n 0, 1) := by decide +kernel
theorem dc_LW_law_317 : decode code 317 = .ok (.iload_n 3, 1) := by decide +kernel
theorem dc_LW_law_318 : decode code 318 = .ok (.iconst 2, 1) := by decide +kernel
theorem dc_LW_law_319 : decode code 319 = .ok (.iadd, 1) := by decide +kernel
theorem dc_LW_law_320 : decode code 320 = .ok (.iaload, 1) := by decide +kernel
theorem dc_LW_law_321 : decode code 321 = .ok (.invokevirtual 53, 3) := by decide +kernel
theorem dc_LW_law_324 : decode code 324 = .ok (.if_icmp .eq 216, 3) := by decide +kernel
theorem dc_LW_law_327 : decode code 327 = .ok (.iconst 0, 1) := by decide +kernel
theorem dc_LW_law_328 : decode code 328 = .ok (.ireturn, 1) := by decide +kernel
theorem dc_LW_law_329 : decode code 329 = .ok (.aload_n 1, 1) := by decide +kernel
theorem dc_LW_law_330 : decode code 330 = .ok (.aload_n 0, 1) := by decide +kernel
theorem dc_LW_law_331 : decode code 331 = .ok (.iload_n 3, 1) := by decide +kernel
theorem dc_LW_law_332 : decode code 332 = .ok (.iconst 1, 1) := by decide +kernel
theorem dc_LW_law_333 : decode code 333 = .ok (.iadd, 1) := by decide +kernel
theorem dc_LW_law_334 : decode code 334 = .ok (.iaload, 1) := by decide +kernel
theorem dc_LW_law_335 : decode code 335 = .ok (.aload_n 0, 1) := by decide +kernel
theorem dc_LW_law_336 : decode code 336 = .ok (.iload_n 3, 1) := by decide +kernel
theorem dc_LW_law_337 : decode code 337 = .ok (.iconst 2, 1) := by decide +kernel
theorem dc_LW_law_338 : decode code 338 = .ok (.iadd, 1) := by decide +kernel
theorem dc_LW_law_339 : decode code 339 = .ok (.iaload, 1) := by decide +kernel
theorem dc_LW_law_340 : decode code 340 = .ok (.ifCond .eq 7, 3) := by decide +kernel
theorem dc_LW_law_343 : decode code 343 = .ok (.iconst 1, 1) := by decide +kernel
theorem dc_LW_law_344 : decode code 344 = .ok (.goto 4, 3) := by decide +kernel
theorem dc_LW_law_347 : decode code 347 = .ok (.iconst 0, 1) := by decide +kernel
theorem dc_LW_law_348 : decode code 348 = .ok (.aload_n 0, 1) := by decide +kernel
theorem dc_LW_law_349 : decode code 349 = .ok (.iload_n 3, 1) := by decide +kernel
theorem dc_LW_law_350 : decode code 350 = .ok (.iconst 3, 1) := by decide +kernel
theorem dc_LW_law_351 : decode code 351 = .ok (.iadd, 1) := by decide +kernel
theorem dc_LW_law_352 : decode code 352 = .ok (.iaload, 1) := by decide +kernel
theorem dc_LW_law_353 : decode code 353 = .ok (.aload_n 0, 1) := by decide +kernel
theorem dc_LW_law_354 : decode code 354 = .ok (.iload_n 3, 1) := by decide +kernel
theorem dc_LW_law_355 : decode code 355 = .ok (.iconst 4, 1) := by decide +kernel
theorem dc_LW_law_356 : decode code 356 = .ok (.iadd, 1) := by decide +kernel
theorem dc_LW_law_357 : decode code 357 = .ok (.iaload, 1) := by decide +kernel
theorem dc_LW_law_358 : decode code 358 = .ok (.ifCond .eq 7, 3) := by decide +kernel
theorem dc_LW_law_361 : decode code 361 = .ok (.iconst 1, 1) := by decide +kernel
theorem dc_LW_law_362 : decode code 362 = .ok (.goto 4, 3) := by decide +kernel
theorem dc_LW_law_365 : decode code 365 = .ok (.iconst 0, 1) := by decide +kernel
theorem dc_LW_law_366 : decode code 366 = .ok (.invokevirtual 54, 3) := by decide +kernel
theorem dc_LW_law_369 : decode code 369 = .ok (.aload_n 2, 1) := by decide +kernel
theorem dc_LW_law_370 : decode code 370 = .ok (.aload_n 0, 1) := by decide +kernel
theorem dc_LW_law_371 : decode code 371 = .ok (.iload_n 3, 1) := by decide +kernel
theorem dc_LW_law_372 : decode code 372 = .ok (.iconst 1, 1) := by decide +kernel
theorem dc_LW_law_373 : decode code 373 = .ok (.iadd, 1) := by decide +kernel
theorem dc_LW_law_374 : decode code 374 = .ok (.iaload, 1) := by decide +kernel
theorem dc_LW_law_375 : decode code 375 = .ok (.aload_n 0, 1) := by decide +kernel
theorem dc_LW_law_376 : decode code 376 = .ok (.iload_n 3, 1) := by decide +kernel
theorem dc_LW_law_377 : decode code 377 = .ok (.iconst 2, 1) := by decide +kernel
theorem dc_LW_law_378 : decode code 378 = .ok (.iadd, 1) := by decide +kernel
theorem dc_LW_law_379 : decode code 379 = .ok (.iaload, 1) := by decide +kernel
theorem dc_LW_law_380 : decode code 380 = .ok (.ifCond .eq 7, 3) := by decide +kernel
theorem dc_LW_law_383 : decode code 383 = .ok (.iconst 1, 1) := by decide +kernel
theorem dc_LW_law_384 : decode code 384 = .ok (.goto 4, 3) := by decide +kernel
theorem dc_LW_law_387 : decode code 387 = .ok (.iconst 0, 1) := by decide +kernel
theorem dc_LW_law_388 : decode code 388 = .ok (.aload_n 0, 1) := by decide +kernel
theorem dc_LW_law_389 : decode code 389 = .ok (.iload_n 3, 1) := by decide +kernel
theorem dc_LW_law_390 : decode code 390 = .ok (.iconst 3, 1) := by decide +kernel
theorem dc_LW_law_391 : decode code 391 = .ok (.iadd, 1) := by decide +kernel
theorem dc_LW_law_392 : decode code 392 = .ok (.iaload, 1) := by decide +kernel
theorem dc_LW_law_393 : decode code 393 = .ok (.aload_n 0, 1) := by decide +kernel
theorem dc_LW_law_394 : decode code 394 = .ok (.iload_n 3, 1) := by decide +kernel
theorem dc_LW_law_395 : decode code 395 = .ok (.iconst 4, 1) := by decide +kernel
theorem dc_LW_law_396 : decode code 396 = .ok (.iadd, 1) := by decide +kernel
theorem dc_LW_law_397 : decode code 397 = .ok (.iaload, 1) := by decide +kernel
theorem dc_LW_law_398 : decode code 398 = .ok (.ifCond .eq 7, 3) := by decide +kernel
theorem dc_LW_law_401 : decode code 401 = .ok (.iconst 1, 1) := by decide +kernel
theorem dc_LW_law_402 : decode code 402 = .ok (.goto 4, 3) := by decide +kernel
theorem dc_LW_law_405 : decode code 405 = .ok (.iconst 0, 1) := by decide +kernel
theorem dc_LW_law_406 : decode code 406 = .ok (.invokevirtual 58, 3) := by decide +kernel
theorem dc_LW_law_409 : decode code 409 = .ok (.if_icmp .eq 131, 3) := by decide +kernel
theorem dc_LW_law_412 : decode code 412 = .ok (.iconst 0, 1) := by decide +kernel
theorem dc_LW_law_413 : decode code 413 = .ok (.ireturn, 1) := by decide +kernel
theorem dc_LW_law_414 : decode code 414 = .ok (.aload_n 1, 1) := by decide +kernel
theorem dc_LW_law_415 : decode code 415 = .ok (.aload_n 0, 1) := by decide +kernel
theorem dc_LW_law_416 : decode code 416 = .ok (.iload_n 3, 1) := by decide +kernel
theorem dc_LW_law_417 : decode code 417 = .ok (.iconst 1, 1) := by decide +kernel
theorem dc_LW_law_418 : decode code 418 = .ok (.iadd, 1) := by decide +kernel
theorem dc_LW_law_419 : decode code 419 = .ok (.iaload, 1) := by decide +kernel
theorem dc_LW_law_420 : decode code 420 = .ok (.invokevirtual 59, 3) := by decide +kernel
theorem dc_LW_law_423 : decode code 423 = .ok (.aload_n 2, 1) := by decide +kernel
theorem dc_LW_law_424 : decode code 424 = .ok (.aload_n 0, 1) := by decide +kernel
theorem dc_LW_law_425 : decode code 425 = .ok (.iload_n 3, 1) := by decide +kernel
theorem dc_LW_law_426 : decode code 426 = .ok (.iconst 1, 1) := by decide +kernel
theorem dc_LW_law_427 : decode code 427 = .ok (.iadd, 1) := by decide +kernel
theorem dc_LW_law_428 : decode code 428 = .ok (.iaload, 1) := by decide +kernel
theorem dc_LW_law_429 : decode code 429 = .ok (.invokevirtual 62, 3) := by decide +kernel
theorem dc_LW_law_432 : decode code 432 = .ok (.if_icmp .eq 108, 3) := by decide +kernel
theorem dc_LW_law_435 : decode code 435 = .ok (.iconst 0, 1) := by decide +kernel
theorem dc_LW_law_436 : decode code 436 = .ok (.ireturn, 1) := by decide +kernel
theorem dc_LW_law_437 : decode code 437 = .ok (.aload_n 1, 1) := by decide +kernel
theorem dc_LW_law_438 : decode code 438 = .ok (.aload_n 0, 1) := by decide +kernel
theorem dc_LW_law_439 : decode code 439 = .ok (.iload_n 3, 1) := by decide +kernel
theorem dc_LW_law_440 : decode code 440 = .ok (.iconst 1, 1) := by decide +kernel
theorem dc_LW_law_441 : decode code 441 = .ok (.iadd, 1) := by decide +kernel
theorem dc_LW_law_442 : decode code 442 = .ok (.iaload, 1) := by decide +kernel
theorem dc_LW_law_443 : decode code 443 = .ok (.invokevirtual 63, 3) := by decide +kernel
theorem dc_LW_law_446 : decode code 446 = .ok (.aload_n 2, 1) := by decide +kernel
theorem dc_LW_law_447 : decode code 447 = .ok (.aload_n 0, 1) := by decide +kernel
theorem dc_LW_law_448 : decode code 448 = .ok (.iload_n 3, 1) := by decide +kernel
theorem dc_LW_law_449 : decode code 449 = .ok (.iconst 1, 1) := by decide +kernel
theorem dc_LW_law_450 : decode code 450 = .ok (.iadd, 1) := by decide +kernel
theorem dc_LW_law_451 : decode code 451 = .ok (.iaload, 1) := by decide +kernel
theorem dc_LW_law_452 : decode code 452 = .ok (.invokevirtual 66, 3) := by decide +kernel
theorem dc_LW_law_455 : decode code 455 = .ok (.if_icmp .eq 85, 3) := by decide +kernel
theorem dc_LW_law_458 : decode code 458 = .ok (.iconst 0, 1) := by decide +kernel
theorem dc_LW_law_459 : decode code 459 = .ok (.ireturn, 1) := by decide +kernel
theorem dc_LW_law_460 : decode code 460 = .ok (.aload_n 1, 1) := by decide +kernel
theorem dc_LW_law_461 : decode code 461 = .ok (.invokevirtual 67, 3) := by decide +kernel
theorem dc_LW_law_464 : decode code 464 = .ok (.aload_n 2, 1) := by decide +kernel
theorem dc_LW_law_465 : decode code 465 = .ok (.invokevirtual 71, 3) := by decide +kernel
theorem dc_LW_law_468 : decode code 468 = .ok (.if_icmp .eq 72, 3) := by decide +kernel
theorem dc_LW_law_471 : decode code 471 = .ok (.iconst 0, 1) := by decide +kernel
theorem dc_LW_law_472 : decode code 472 = .ok (.ireturn, 1) := by decide +kernel
theorem dc_LW_law_473 : decode code 473 = .ok (.aload_n 1, 1) := by decide +kernel
theorem dc_LW_law_474 : decode code 474 = .ok (.invokevirtual 72, 3) := by decide +kernel
theorem dc_LW_law_477 : decode code 477 = .ok (.aload_n 2, 1) := by decide +kernel
theorem dc_LW_law_478 : decode code 478 = .ok (.invokevirtual 75, 3) := by decide +kernel
theorem dc_LW_law_481 : decode code 481 = .ok (.if_icmp .eq 59, 3) := by decide +kernel
theorem dc_LW_law_484 : decode code 484 = .ok (.iconst 0, 1) := by decide +kernel
theorem dc_LW_law_485 : decode code 485 = .ok (.ireturn, 1) := by decide +kernel
theorem dc_LW_law_486 : decode code 486 = .ok (.aload_n 1, 1) := by decide +kernel
theorem dc_LW_law_487 : decode code 487 = .ok (.aload_n 0, 1) := by decide +kernel
theorem dc_LW_law_488 : decode code 488 = .ok (.iload_n 3, 1) := by decide +kernel
theorem dc_LW_law_489 : decode code 489 = .ok (.iconst 1, 1) := by decide +kernel
theorem dc_LW_law_490 : decode code 490 = .ok (.iadd, 1) := by decide +kernel
theorem dc_LW_law_491 : decode code 491 = .ok (.iaload, 1) := by decide +kernel
theorem dc_LW_law_492 : decode code 492 = .ok (.aload_n 0, 1) := by decide +kernel
theorem dc_LW_law_493 : decode code 493 = .ok (.iload_n 3, 1) := by decide +kernel
theorem dc_LW_law_494 : decode code 494 = .ok (.iconst 2, 1) := by decide +kernel
theorem dc_LW_law_495 : decode code 495 = .ok (.iadd, 1) := by decide +kernel
theorem dc_LW_law_496 : decode code 496 = .ok (.iaload, 1) := by decide +kernel
theorem dc_LW_law_497 : decode code 497 = .ok (.aload_n 0, 1) := by decide +kernel
theorem dc_LW_law_498 : decode code 498 = .ok (.iload_n 3, 1) := by decide +kernel
theorem dc_LW_law_499 : decode code 499 = .ok (.iconst 3, 1) := by decide +kernel
theorem dc_LW_law_500 : decode code 500 = .ok (.iadd, 1) := by decide +kernel
theorem dc_LW_law_501 : decode code 501 = .ok (.iaload, 1) := by decide +kernel
theorem dc_LW_law_502 : decode code 502 = .ok (.invokevirtual 76, 3) := by decide +kernel
theorem dc_LW_law_505 : decode code 505 = .ok (.aload_n 2, 1) := by decide +kernel
theorem dc_LW_law_506 : decode code 506 = .ok (.aload_n 0, 1) := by decide +kernel
theorem dc_LW_law_507 : decode code 507 = .ok (.iload_n 3, 1) := by decide +kernel
theorem dc_LW_law_508 : decode code 508 = .ok (.iconst 1, 1) := by decide +kernel
theorem dc_LW_law_509 : decode code 509 = .ok (.iadd, 1) := by decide +kernel
theorem dc_LW_law_510 : decode code 510 = .ok (.iaload, 1) := by decide +kernel
theorem dc_LW_law_511 : decode code 511 = .ok (.aload_n 0, 1) := by decide +kernel
theorem dc_LW_law_512 : decode code 512 = .ok (.iload_n 3, 1) := by decide +kernel
theorem dc_LW_law_513 : decode code 513 = .ok (.iconst 2, 1) := by decide +kernel
theorem dc_LW_law_514 : decode code 514 = .ok (.iadd, 1) := by decide +kernel
theorem dc_LW_law_515 : decode code 515 = .ok (.iaload, 1) := by decide +kernel
theorem dc_LW_law_516 : decode code 516 = .ok (.aload_n 0, 1) := by decide +kernel
theorem dc_LW_law_517 : decode code 517 = .ok (.iload_n 3, 1) := by decide +kernel
theorem dc_LW_law_518 : decode code 518 = .ok (.iconst 3, 1) := by decide +kernel
theorem dc_LW_law_519 : decode code 519 = .ok (.iadd, 1) := by decide +kernel
theorem dc_LW_law_520 : decode code 520 = .ok (.iaload, 1) := by decide +kernel
theorem dc_LW_law_521 : decode code 521 = .ok (.invokevirtual 80, 3) := by decide +kernel
theorem dc_LW_law_524 : decode code 524 = .ok (.if_icmp .eq 16, 3) := by decide +kernel
theorem dc_LW_law_527 : decode code 527 = .ok (.iconst 0, 1) := by decide +kernel
theorem dc_LW_law_528 : decode code 528 = .ok (.ireturn, 1) := by decide +kernel
theorem dc_LW_law_529 : decode code 529 = .ok (.aload_n 1, 1) := by decide +kernel
theorem dc_LW_law_530 : decode code 530 = .ok (.invokevirtual 81, 3) := by decide +kernel
theorem dc_LW_law_533 : decode code 533 = .ok (.aload_n 2, 1) := by decide +kernel
theorem dc_LW_law_534 : decode code 534 = .ok (.invokevirtual 84, 3) := by decide +kernel
theorem dc_LW_law_537 : decode code 537 = .ok (.goto 3, 3) := by decide +kernel
theorem dc_LW_law_540 : decode code 540 = .ok (.iinc 3 5, 3) := by decide +kernel
theorem dc_LW_law_543 : decode code 543 = .ok (.goto (-525), 3) := by decide +kernel
theorem dc_LW_law_546 : decode code 546 = .ok (.iconst 1, 1) := by decide +kernel
theorem dc_LW_law_547 : decode code 547 = .ok (.ireturn, 1) := by decide +kernel
