theorem d_LW_law_0 : decode code 0 = .ok (.new 7, 3) := by decide +kernel
theorem d_LW_law_3 : decode code 3 = .ok (.dup, 1) := by decide +kernel
theorem d_LW_law_4 : decode code 4 = .ok (.invokespecial 9, 3) := by decide +kernel
theorem d_LW_law_7 : decode code 7 = .ok (.astore_n 1, 1) := by decide +kernel
theorem d_LW_law_8 : decode code 8 = .ok (.new 10, 3) := by decide +kernel
theorem d_LW_law_11 : decode code 11 = .ok (.dup, 1) := by decide +kernel
theorem d_LW_law_12 : decode code 12 = .ok (.invokespecial 12, 3) := by decide +kernel
theorem d_LW_law_15 : decode code 15 = .ok (.astore_n 2, 1) := by decide +kernel
theorem d_LW_law_16 : decode code 16 = .ok (.iconst 0, 1) := by decide +kernel
theorem d_LW_law_17 : decode code 17 = .ok (.istore_n 3, 1) := by decide +kernel
theorem d_LW_law_18 : decode code 18 = .ok (.iload_n 3, 1) := by decide +kernel
theorem d_LW_law_19 : decode code 19 = .ok (.aload_n 0, 1) := by decide +kernel
theorem d_LW_law_20 : decode code 20 = .ok (.arraylength, 1) := by decide +kernel
theorem d_LW_law_21 : decode code 21 = .ok (.iconst 4, 1) := by decide +kernel
theorem d_LW_law_22 : decode code 22 = .ok (.isub, 1) := by decide +kernel
theorem d_LW_law_23 : decode code 23 = .ok (.if_icmp .gt 404, 3) := by decide +kernel
theorem d_LW_law_26 : decode code 26 = .ok (.aload_n 0, 1) := by decide +kernel
theorem d_LW_law_27 : decode code 27 = .ok (.iload_n 3, 1) := by decide +kernel
theorem d_LW_law_28 : decode code 28 = .ok (.iaload, 1) := by decide +kernel
theorem d_LW_law_29 : decode code 29 = .ok (.bipush 15, 2) := by decide +kernel
theorem d_LW_law_31 : decode code 31 = .ok (.iand, 1) := by decide +kernel
theorem d_LW_law_32 : decode code 32 = .ok (.tableswitch 389 0 12 #[68, 121, 184, 197, 210, 223, 257, 280, 303, 316, 350, 363, 376], 68) := by decide +kernel
theorem d_LW_law_100 : decode code 100 = .ok (.aload_n 1, 1) := by decide +kernel
theorem d_LW_law_101 : decode code 101 = .ok (.aload_n 0, 1) := by decide +kernel
theorem d_LW_law_102 : decode code 102 = .ok (.iload_n 3, 1) := by decide +kernel
theorem d_LW_law_103 : decode code 103 = .ok (.iconst 1, 1) := by decide +kernel
theorem d_LW_law_104 : decode code 104 = .ok (.iadd, 1) := by decide +kernel
theorem d_LW_law_105 : decode code 105 = .ok (.iaload, 1) := by decide +kernel
theorem d_LW_law_106 : decode code 106 = .ok (.i2l, 1) := by decide +kernel
theorem d_LW_law_107 : decode code 107 = .ok (.bipush 32, 2) := by decide +kernel
theorem d_LW_law_109 : decode code 109 = .ok (.lshl, 1) := by decide +kernel
theorem d_LW_law_110 : decode code 110 = .ok (.aload_n 0, 1) := by decide +kernel
theorem d_LW_law_111 : decode code 111 = .ok (.iload_n 3, 1) := by decide +kernel
theorem d_LW_law_112 : decode code 112 = .ok (.iconst 2, 1) := by decide +kernel
theorem d_LW_law_113 : decode code 113 = .ok (.iadd, 1) := by decide +kernel
theorem d_LW_law_114 : decode code 114 = .ok (.iaload, 1) := by decide +kernel
theorem d_LW_law_115 : decode code 115 = .ok (.i2l, 1) := by decide +kernel
theorem d_LW_law_116 : decode code 116 = .ok (.ldc2_w 13, 3) := by decide +kernel
theorem d_LW_law_119 : decode code 119 = .ok (.land, 1) := by decide +kernel
theorem d_LW_law_120 : decode code 120 = .ok (.lor, 1) := by decide +kernel
theorem d_LW_law_121 : decode code 121 = .ok (.invokevirtual 15, 3) := by decide +kernel
theorem d_LW_law_124 : decode code 124 = .ok (.aload_n 2, 1) := by decide +kernel
theorem d_LW_law_125 : decode code 125 = .ok (.aload_n 0, 1) := by decide +kernel
theorem d_LW_law_126 : decode code 126 = .ok (.iload_n 3, 1) := by decide +kernel
theorem d_LW_law_127 : decode code 127 = .ok (.iconst 1, 1) := by decide +kernel
theorem d_LW_law_128 : decode code 128 = .ok (.iadd, 1) := by decide +kernel
theorem d_LW_law_129 : decode code 129 = .ok (.iaload, 1) := by decide +kernel
theorem d_LW_law_130 : decode code 130 = .ok (.i2l, 1) := by decide +kernel
theorem d_LW_law_131 : decode code 131 = .ok (.bipush 32, 2) := by decide +kernel
theorem d_LW_law_133 : decode code 133 = .ok (.lshl, 1) := by decide +kernel
theorem d_LW_law_134 : decode code 134 = .ok (.aload_n 0, 1) := by decide +kernel
theorem d_LW_law_135 : decode code 135 = .ok (.iload_n 3, 1) := by decide +kernel
theorem d_LW_law_136 : decode code 136 = .ok (.iconst 2, 1) := by decide +kernel
theorem d_LW_law_137 : decode code 137 = .ok (.iadd, 1) := by decide +kernel
theorem d_LW_law_138 : decode code 138 = .ok (.iaload, 1) := by decide +kernel
theorem d_LW_law_139 : decode code 139 = .ok (.i2l, 1) := by decide +kernel
theorem d_LW_law_140 : decode code 140 = .ok (.ldc2_w 13, 3) := by decide +kernel
theorem d_LW_law_143 : decode code 143 = .ok (.land, 1) := by decide +kernel
theorem d_LW_law_144 : decode code 144 = .ok (.lor, 1) := by decide +kernel
theorem d_LW_law_145 : decode code 145 = .ok (.invokevirtual 19, 3) := by decide +kernel
theorem d_LW_law_148 : decode code 148 = .ok (.if_icmp .eq 273, 3) := by decide +kernel
theorem d_LW_law_151 : decode code 151 = .ok (.iconst 0, 1) := by decide +kernel
theorem d_LW_law_152 : decode code 152 = .ok (.ireturn, 1) := by decide +kernel
theorem d_LW_law_153 : decode code 153 = .ok (.aload_n 1, 1) := by decide +kernel
theorem d_LW_law_154 : decode code 154 = .ok (.aload_n 0, 1) := by decide +kernel
theorem d_LW_law_155 : decode code 155 = .ok (.iload_n 3, 1) := by decide +kernel
theorem d_LW_law_156 : decode code 156 = .ok (.iconst 1, 1) := by decide +kernel
theorem d_LW_law_157 : decode code 157 = .ok (.iadd, 1) := by decide +kernel
theorem d_LW_law_158 : decode code 158 = .ok (.iaload, 1) := by decide +kernel
theorem d_LW_law_159 : decode code 159 = .ok (.aload_n 0, 1) := by decide +kernel
theorem d_LW_law_160 : decode code 160 = .ok (.iload_n 3, 1) := by decide +kernel
theorem d_LW_law_161 : decode code 161 = .ok (.iconst 2, 1) := by decide +kernel
theorem d_LW_law_162 : decode code 162 = .ok (.iadd, 1) := by decide +kernel
theorem d_LW_law_163 : decode code 163 = .ok (.iaload, 1) := by decide +kernel
theorem d_LW_law_164 : decode code 164 = .ok (.i2l, 1) := by decide +kernel
theorem d_LW_law_165 : decode code 165 = .ok (.bipush 32, 2) := by decide +kernel
theorem d_LW_law_167 : decode code 167 = .ok (.lshl, 1) := by decide +kernel
theorem d_LW_law_168 : decode code 168 = .ok (.aload_n 0, 1) := by decide +kernel
theorem d_LW_law_169 : decode code 169 = .ok (.iload_n 3, 1) := by decide +kernel
theorem d_LW_law_170 : decode code 170 = .ok (.iconst 3, 1) := by decide +kernel
theorem d_LW_law_171 : decode code 171 = .ok (.iadd, 1) := by decide +kernel
theorem d_LW_law_172 : decode code 172 = .ok (.iaload, 1) := by decide +kernel
theorem d_LW_law_173 : decode code 173 = .ok (.i2l, 1) := by decide +kernel
theorem d_LW_law_174 : decode code 174 = .ok (.ldc2_w 13, 3) := by decide +kernel
theorem d_LW_law_177 : decode code 177 = .ok (.land, 1) := by decide +kernel
theorem d_LW_law_178 : decode code 178 = .ok (.lor, 1) := by decide +kernel
theorem d_LW_law_179 : decode code 179 = .ok (.invokevirtual 20, 3) := by decide +kernel
theorem d_LW_law_182 : decode code 182 = .ok (.aload_n 2, 1) := by decide +kernel
theorem d_LW_law_183 : decode code 183 = .ok (.aload_n 0, 1) := by decide +kernel
theorem d_LW_law_184 : decode code 184 = .ok (.iload_n 3, 1) := by decide +kernel
theorem d_LW_law_185 : decode code 185 = .ok (.iconst 1, 1) := by decide +kernel
theorem d_LW_law_186 : decode code 186 = .ok (.iadd, 1) := by decide +kernel
theorem d_LW_law_187 : decode code 187 = .ok (.iaload, 1) := by decide +kernel
theorem d_LW_law_188 : decode code 188 = .ok (.aload_n 0, 1) := by decide +kernel
theorem d_LW_law_189 : decode code 189 = .ok (.iload_n 3, 1) := by decide +kernel
theorem d_LW_law_190 : decode code 190 = .ok (.iconst 2, 1) := by decide +kernel
theorem d_LW_law_191 : decode code 191 = .ok (.iadd, 1) := by decide +kernel
theorem d_LW_law_192 : decode code 192 = .ok (.iaload, 1) := by decide +kernel
theorem d_LW_law_193 : decode code 193 = .ok (.i2l, 1) := by decide +kernel
theorem d_LW_law_194 : decode code 194 = .ok (.bipush 32, 2) := by decide +kernel
theorem d_LW_law_196 : decode code 196 = .ok (.lshl, 1) := by decide +kernel
theorem d_LW_law_197 : decode code 197 = .ok (.aload_n 0, 1) := by decide +kernel
theorem d_LW_law_198 : decode code 198 = .ok (.iload_n 3, 1) := by decide +kernel
theorem d_LW_law_199 : decode code 199 = .ok (.iconst 3, 1) := by decide +kernel
theorem d_LW_law_200 : decode code 200 = .ok (.iadd, 1) := by decide +kernel
theorem d_LW_law_201 : decode code 201 = .ok (.iaload, 1) := by decide +kernel
theorem d_LW_law_202 : decode code 202 = .ok (.i2l, 1) := by decide +kernel
theorem d_LW_law_203 : decode code 203 = .ok (.ldc2_w 13, 3) := by decide +kernel
theorem d_LW_law_206 : decode code 206 = .ok (.land, 1) := by decide +kernel
theorem d_LW_law_207 : decode code 207 = .ok (.lor, 1) := by decide +kernel
theorem d_LW_law_208 : decode code 208 = .ok (.invokevirtual 24, 3) := by decide +kernel
theorem d_LW_law_211 : decode code 211 = .ok (.if_icmp .eq 210, 3) := by decide +kernel
theorem d_LW_law_214 : decode code 214 = .ok (.iconst 0, 1) := by decide +kernel
theorem d_LW_law_215 : decode code 215 = .ok (.ireturn, 1) := by decide +kernel
theorem d_LW_law_216 : decode code 216 = .ok (.aload_n 1, 1) := by decide +kernel
theorem d_LW_law_217 : decode code 217 = .ok (.invokevirtual 25, 3) := by decide +kernel
theorem d_LW_law_220 : decode code 220 = .ok (.aload_n 2, 1) := by decide +kernel
theorem d_LW_law_221 : decode code 221 = .ok (.invokevirtual 29, 3) := by decide +kernel
theorem d_LW_law_224 : decode code 224 = .ok (.if_icmp .eq 197, 3) := by decide +kernel
theorem d_LW_law_227 : decode code 227 = .ok (.iconst 0, 1) := by decide +kernel
theorem d_LW_law_228 : decode code 228 = .ok (.ireturn, 1) := by decide +kernel
theorem d_LW_law_229 : decode code 229 = .ok (.aload_n 1, 1) := by decide +kernel
theorem d_LW_law_230 : decode code 230 = .ok (.invokevirtual 30, 3) := by decide +kernel
theorem d_LW_law_233 : decode code 233 = .ok (.aload_n 2, 1) := by decide +kernel
theorem d_LW_law_234 : decode code 234 = .ok (.invokevirtual 33, 3) := by decide +kernel
theorem d_LW_law_237 : decode code 237 = .ok (.if_icmp .eq 184, 3) := by decide +kernel
theorem d_LW_law_240 : decode code 240 = .ok (.iconst 0, 1) := by decide +kernel
theorem d_LW_law_241 : decode code 241 = .ok (.ireturn, 1) := by decide +kernel
theorem d_LW_law_242 : decode code 242 = .ok (.aload_n 1, 1) := by decide +kernel
theorem d_LW_law_243 : decode code 243 = .ok (.invokevirtual 34, 3) := by decide +kernel
theorem d_LW_law_246 : decode code 246 = .ok (.aload_n 2, 1) := by decide +kernel
theorem d_LW_law_247 : decode code 247 = .ok (.invokevirtual 37, 3) := by decide +kernel
theorem d_LW_law_250 : decode code 250 = .ok (.if_icmp .eq 171, 3) := by decide +kernel
theorem d_LW_law_253 : decode code 253 = .ok (.iconst 0, 1) := by decide +kernel
theorem d_LW_law_254 : decode code 254 = .ok (.ireturn, 1) := by decide +kernel
theorem d_LW_law_255 : decode code 255 = .ok (.aload_n 1, 1) := by decide +kernel
theorem d_LW_law_256 : decode code 256 = .ok (.aload_n 0, 1) := by decide +kernel
theorem d_LW_law_257 : decode code 257 = .ok (.iload_n 3, 1) := by decide +kernel
theorem d_LW_law_258 : decode code 258 = .ok (.iconst 1, 1) := by decide +kernel
theorem d_LW_law_259 : decode code 259 = .ok (.iadd, 1) := by decide +kernel
theorem d_LW_law_260 : decode code 260 = .ok (.iaload, 1) := by decide +kernel
theorem d_LW_law_261 : decode code 261 = .ok (.aload_n 0, 1) := by decide +kernel
theorem d_LW_law_262 : decode code 262 = .ok (.iload_n 3, 1) := by decide +kernel
theorem d_LW_law_263 : decode code 263 = .ok (.iconst 2, 1) := by decide +kernel
theorem d_LW_law_264 : decode code 264 = .ok (.iadd, 1) := by decide +kernel
theorem d_LW_law_265 : decode code 265 = .ok (.iaload, 1) := by decide +kernel
theorem d_LW_law_266 : decode code 266 = .ok (.invokevirtual 38, 3) := by decide +kernel
theorem d_LW_law_269 : decode code 269 = .ok (.aload_n 2, 1) := by decide +kernel
theorem d_LW_law_270 : decode code 270 = .ok (.aload_n 0, 1) := by decide +kernel
theorem d_LW_law_271 : decode code 271 = .ok (.iload_n 3, 1) := by decide +kernel
theorem d_LW_law_272 : decode code 272 = .ok (.iconst 1, 1) := by decide +kernel
theorem d_LW_law_273 : decode code 273 = .ok (.iadd, 1) := by decide +kernel
theorem d_LW_law_274 : decode code 274 = .ok (.iaload, 1) := by decide +kernel
theorem d_LW_law_275 : decode code 275 = .ok (.aload_n 0, 1) := by decide +kernel
theorem d_LW_law_276 : decode code 276 = .ok (.iload_n 3, 1) := by decide +kernel
theorem d_LW_law_277 : decode code 277 = .ok (.iconst 2, 1) := by decide +kernel
theorem d_LW_law_278 : decode code 278 = .ok (.iadd, 1) := by decide +kernel
theorem d_LW_law_279 : decode code 279 = .ok (.iaload, 1) := by decide +kernel
theorem d_LW_law_280 : decode code 280 = .ok (.invokevirtual 42, 3) := by decide +kernel
theorem d_LW_law_283 : decode code 283 = .ok (.lcmp, 1) := by decide +kernel
theorem d_LW_law_284 : decode code 284 = .ok (.ifCond .eq 137, 3) := by decide +kernel
theorem d_LW_law_287 : decode code 287 = .ok (.iconst 0, 1) := by decide +kernel
theorem d_LW_law_288 : decode code 288 = .ok (.ireturn, 1) := by decide +kernel
theorem d_LW_law_289 : decode code 289 = .ok (.aload_n 1, 1) := by decide +kernel
theorem d_LW_law_290 : decode code 290 = .ok (.aload_n 0, 1) := by decide +kernel
theorem d_LW_law_291 : decode code 291 = .ok (.iload_n 3, 1) := by decide +kernel
theorem d_LW_law_292 : decode code 292 = .ok (.iconst 1, 1) := by decide +kernel
theorem d_LW_law_293 : decode code 293 = .ok (.iadd, 1) := by decide +kernel
theorem d_LW_law_294 : decode code 294 = .ok (.iaload, 1) := by decide +kernel
theorem d_LW_law_295 : decode code 295 = .ok (.invokevirtual 43, 3) := by decide +kernel
theorem d_LW_law_298 : decode code 298 = .ok (.aload_n 2, 1) := by decide +kernel
theorem d_LW_law_299 : decode code 299 = .ok (.aload_n 0, 1) := by decide +kernel
theorem d_LW_law_300 : decode code 300 = .ok (.iload_n 3, 1) := by decide +kernel
theorem d_LW_law_301 : decode code 301 = .ok (.iconst 1, 1) := by decide +kernel
theorem d_LW_law_302 : decode code 302 = .ok (.iadd, 1) := by decide +kernel
theorem d_LW_law_303 : decode code 303 = .ok (.iaload, 1) := by decide +kernel
theorem d_LW_law_304 : decode code 304 = .ok (.invokevirtual 47, 3) := by decide +kernel
theorem d_LW_law_307 : decode code 307 = .ok (.if_icmp .eq 114, 3) := by decide +kernel
theorem d_LW_law_310 : decode code 310 = .ok (.iconst 0, 1) := by decide +kernel
theorem d_LW_law_311 : decode code 311 = .ok (.ireturn, 1) := by decide +kernel
theorem d_LW_law_312 : decode code 312 = .ok (.aload_n 1, 1) := by decide +kernel
theorem d_LW_law_313 : decode code 313 = .ok (.aload_n 0, 1) := by decide +kernel
theorem d_LW_law_314 : decode code 314 = .ok (.iload_n 3, 1) := by decide +kernel
theorem d_LW_law_315 : decode code 315 = .ok (.iconst 1, 1) := by decide +kernel
theorem d_LW_law_316 : decode code 316 = .ok (.iadd, 1) := by decide +kernel
theorem d_LW_law_317 : decode code 317 = .ok (.iaload, 1) := by decide +kernel
theorem d_LW_law_318 : decode code 318 = .ok (.invokevirtual 48, 3) := by decide +kernel
theorem d_LW_law_321 : decode code 321 = .ok (.aload_n 2, 1) := by decide +kernel
theorem d_LW_law_322 : decode code 322 = .ok (.aload_n 0, 1) := by decide +kernel
theorem d_LW_law_323 : decode code 323 = .ok (.iload_n 3, 1) := by decide +kernel
theorem d_LW_law_324 : decode code 324 = .ok (.iconst 1, 1) := by decide +kernel
theorem d_LW_law_325 : decode code 325 = .ok (.iadd, 1) := by decide +kernel
theorem d_LW_law_326 : decode code 326 = .ok (.iaload, 1) := by decide +kernel
theorem d_LW_law_327 : decode code 327 = .ok (.invokevirtual 51, 3) := by decide +kernel
theorem d_LW_law_330 : decode code 330 = .ok (.if_icmp .eq 91, 3) := by decide +kernel
theorem d_LW_law_333 : decode code 333 = .ok (.iconst 0, 1) := by decide +kernel
theorem d_LW_law_334 : decode code 334 = .ok (.ireturn, 1) := by decide +kernel
theorem d_LW_law_335 : decode code 335 = .ok (.aload_n 1, 1) := by decide +kernel
theorem d_LW_law_336 : decode code 336 = .ok (.invokevirtual 52, 3) := by decide +kernel
theorem d_LW_law_339 : decode code 339 = .ok (.aload_n 2, 1) := by decide +kernel
theorem d_LW_law_340 : decode code 340 = .ok (.invokevirtual 55, 3) := by decide +kernel
theorem d_LW_law_343 : decode code 343 = .ok (.if_icmp .eq 78, 3) := by decide +kernel
theorem d_LW_law_346 : decode code 346 = .ok (.iconst 0, 1) := by decide +kernel
theorem d_LW_law_347 : decode code 347 = .ok (.ireturn, 1) := by decide +kernel
theorem d_LW_law_348 : decode code 348 = .ok (.aload_n 1, 1) := by decide +kernel
theorem d_LW_law_349 : decode code 349 = .ok (.aload_n 0, 1) := by decide +kernel
theorem d_LW_law_350 : decode code 350 = .ok (.iload_n 3, 1) := by decide +kernel
theorem d_LW_law_351 : decode code 351 = .ok (.iconst 1, 1) := by decide +kernel
theorem d_LW_law_352 : decode code 352 = .ok (.iadd, 1) := by decide +kernel
theorem d_LW_law_353 : decode code 353 = .ok (.iaload, 1) := by decide +kernel
theorem d_LW_law_354 : decode code 354 = .ok (.aload_n 0, 1) := by decide +kernel
theorem d_LW_law_355 : decode code 355 = .ok (.iload_n 3, 1) := by decide +kernel
theorem d_LW_law_356 : decode code 356 = .ok (.iconst 2, 1) := by decide +kernel
theorem d_LW_law_357 : decode code 357 = .ok (.iadd, 1) := by decide +kernel
theorem d_LW_law_358 : decode code 358 = .ok (.iaload, 1) := by decide +kernel
theorem d_LW_law_359 : decode code 359 = .ok (.invokevirtual 56, 3) := by decide +kernel
theorem d_LW_law_362 : decode code 362 = .ok (.aload_n 2, 1) := by decide +kernel
theorem d_LW_law_363 : decode code 363 = .ok (.aload_n 0, 1) := by decide +kernel
theorem d_LW_law_364 : decode code 364 = .ok (.iload_n 3, 1) := by decide +kernel
theorem d_LW_law_365 : decode code 365 = .ok (.iconst 1, 1) := by decide +kernel
theorem d_LW_law_366 : decode code 366 = .ok (.iadd, 1) := by decide +kernel
theorem d_LW_law_367 : decode code 367 = .ok (.iaload, 1) := by decide +kernel
theorem d_LW_law_368 : decode code 368 = .ok (.aload_n 0, 1) := by decide +kernel
theorem d_LW_law_369 : decode code 369 = .ok (.iload_n 3, 1) := by decide +kernel
theorem d_LW_law_370 : decode code 370 = .ok (.iconst 2, 1) := by decide +kernel
theorem d_LW_law_371 : decode code 371 = .ok (.iadd, 1) := by decide +kernel
theorem d_LW_law_372 : decode code 372 = .ok (.iaload, 1) := by decide +kernel
theorem d_LW_law_373 : decode code 373 = .ok (.invokevirtual 59, 3) := by decide +kernel
theorem d_LW_law_376 : decode code 376 = .ok (.lcmp, 1) := by decide +kernel
theorem d_LW_law_377 : decode code 377 = .ok (.ifCond .eq 44, 3) := by decide +kernel
theorem d_LW_law_380 : decode code 380 = .ok (.iconst 0, 1) := by decide +kernel
theorem d_LW_law_381 : decode code 381 = .ok (.ireturn, 1) := by decide +kernel
theorem d_LW_law_382 : decode code 382 = .ok (.aload_n 1, 1) := by decide +kernel
theorem d_LW_law_383 : decode code 383 = .ok (.invokevirtual 60, 3) := by decide +kernel
theorem d_LW_law_386 : decode code 386 = .ok (.aload_n 2, 1) := by decide +kernel
theorem d_LW_law_387 : decode code 387 = .ok (.invokevirtual 63, 3) := by decide +kernel
theorem d_LW_law_390 : decode code 390 = .ok (.if_icmp .eq 31, 3) := by decide +kernel
theorem d_LW_law_393 : decode code 393 = .ok (.iconst 0, 1) := by decide +kernel
theorem d_LW_law_394 : decode code 394 = .ok (.ireturn, 1) := by decide +kernel
theorem d_LW_law_395 : decode code 395 = .ok (.aload_n 1, 1) := by decide +kernel
theorem d_LW_law_396 : decode code 396 = .ok (.invokevirtual 64, 3) := by decide +kernel
theorem d_LW_law_399 : decode code 399 = .ok (.aload_n 2, 1) := by decide +kernel
theorem d_LW_law_400 : decode code 400 = .ok (.invokevirtual 67, 3) := by decide +kernel
theorem d_LW_law_403 : decode code 403 = .ok (.if_icmp .eq 18, 3) := by decide +kernel
theorem d_LW_law_406 : decode code 406 = .ok (.iconst 0, 1) := by decide +kernel
theorem d_LW_law_407 : decode code 407 = .ok (.ireturn, 1) := by decide +kernel
theorem d_LW_law_408 : decode code 408 = .ok (.aload_n 1, 1) := by decide +kernel
theorem d_LW_law_409 : decode code 409 = .ok (.invokevirtual 68, 3) := by decide +kernel
theorem d_LW_law_412 : decode code 412 = .ok (.aload_n 2, 1) := by decide +kernel
theorem d_LW_law_413 : decode code 413 = .ok (.invokevirtual 72, 3) := by decide +kernel
theorem d_LW_law_416 : decode code 416 = .ok (.if_icmp .eq 5, 3) := by decide +kernel
theorem d_LW_law_419 : decode code 419 = .ok (.iconst 0, 1) := by decide +kernel
theorem d_LW_law_420 : decode code 420 = .ok (.ireturn, 1) := by decide +kernel
theorem d_LW_law_421 : decode code 421 = .ok (.iinc 3 4, 3) := by decide +kernel
theorem d_LW_law_424 : decode code 424 = .ok (.goto (-406), 3) := by decide +kernel
theorem d_LW_law_427 : decode code 427 = .ok (.iconst 1, 1) := by decide +kernel
theorem d_LW_law_428 : decode code 428 = .ok (.ireturn, 1) := by decide +kernel
