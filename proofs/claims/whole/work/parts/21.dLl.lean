/-! decode rows -/
theorem dL_law_0 : decode mL_law.2.1 0 = .ok (.new 8, 3) := by decide +kernel
theorem dL_law_3 : decode mL_law.2.1 3 = .ok (.dup, 1) := by decide +kernel
theorem dL_law_4 : decode mL_law.2.1 4 = .ok (.invokespecial 53, 3) := by decide +kernel
theorem dL_law_7 : decode mL_law.2.1 7 = .ok (.astore_n 1, 1) := by decide +kernel
theorem dL_law_8 : decode mL_law.2.1 8 = .ok (.new 54, 3) := by decide +kernel
theorem dL_law_11 : decode mL_law.2.1 11 = .ok (.dup, 1) := by decide +kernel
theorem dL_law_12 : decode mL_law.2.1 12 = .ok (.invokespecial 56, 3) := by decide +kernel
theorem dL_law_15 : decode mL_law.2.1 15 = .ok (.astore_n 2, 1) := by decide +kernel
theorem dL_law_16 : decode mL_law.2.1 16 = .ok (.iconst 1, 1) := by decide +kernel
theorem dL_law_17 : decode mL_law.2.1 17 = .ok (.newarray .long, 2) := by decide +kernel
theorem dL_law_19 : decode mL_law.2.1 19 = .ok (.astore_n 3, 1) := by decide +kernel
theorem dL_law_20 : decode mL_law.2.1 20 = .ok (.iconst 0, 1) := by decide +kernel
theorem dL_law_21 : decode mL_law.2.1 21 = .ok (.istore 4, 2) := by decide +kernel
theorem dL_law_23 : decode mL_law.2.1 23 = .ok (.iload 4, 2) := by decide +kernel
theorem dL_law_25 : decode mL_law.2.1 25 = .ok (.aload_n 0, 1) := by decide +kernel
theorem dL_law_26 : decode mL_law.2.1 26 = .ok (.arraylength, 1) := by decide +kernel
theorem dL_law_27 : decode mL_law.2.1 27 = .ok (.iconst 4, 1) := by decide +kernel
theorem dL_law_28 : decode mL_law.2.1 28 = .ok (.isub, 1) := by decide +kernel
theorem dL_law_29 : decode mL_law.2.1 29 = .ok (.if_icmp .gt 906, 3) := by decide +kernel
theorem dL_law_32 : decode mL_law.2.1 32 = .ok (.aload_n 0, 1) := by decide +kernel
theorem dL_law_33 : decode mL_law.2.1 33 = .ok (.iload 4, 2) := by decide +kernel
theorem dL_law_35 : decode mL_law.2.1 35 = .ok (.iaload, 1) := by decide +kernel
theorem dL_law_36 : decode mL_law.2.1 36 = .ok (.bipush 15, 2) := by decide +kernel
theorem dL_law_38 : decode mL_law.2.1 38 = .ok (.iand, 1) := by decide +kernel
theorem dL_law_39 : decode mL_law.2.1 39 = .ok (.tableswitch 890 0 14 #[73, 129, 185, 272, 308, 371, 434, 509, 584, 640, 703, 716, 784, 840, 865], 73) := by decide +kernel
theorem dL_law_112 : decode mL_law.2.1 112 = .ok (.aload_n 1, 1) := by decide +kernel
theorem dL_law_113 : decode mL_law.2.1 113 = .ok (.aload_n 0, 1) := by decide +kernel
theorem dL_law_114 : decode mL_law.2.1 114 = .ok (.iload 4, 2) := by decide +kernel
theorem dL_law_116 : decode mL_law.2.1 116 = .ok (.iconst 1, 1) := by decide +kernel
theorem dL_law_117 : decode mL_law.2.1 117 = .ok (.iadd, 1) := by decide +kernel
theorem dL_law_118 : decode mL_law.2.1 118 = .ok (.iaload, 1) := by decide +kernel
theorem dL_law_119 : decode mL_law.2.1 119 = .ok (.aload_n 3, 1) := by decide +kernel
theorem dL_law_120 : decode mL_law.2.1 120 = .ok (.invokestatic 57, 3) := by decide +kernel
theorem dL_law_123 : decode mL_law.2.1 123 = .ok (.istore 5, 2) := by decide +kernel
theorem dL_law_125 : decode mL_law.2.1 125 = .ok (.aload_n 2, 1) := by decide +kernel
theorem dL_law_126 : decode mL_law.2.1 126 = .ok (.aload_n 0, 1) := by decide +kernel
theorem dL_law_127 : decode mL_law.2.1 127 = .ok (.iload 4, 2) := by decide +kernel
theorem dL_law_129 : decode mL_law.2.1 129 = .ok (.iconst 1, 1) := by decide +kernel
theorem dL_law_130 : decode mL_law.2.1 130 = .ok (.iadd, 1) := by decide +kernel
theorem dL_law_131 : decode mL_law.2.1 131 = .ok (.iaload, 1) := by decide +kernel
theorem dL_law_132 : decode mL_law.2.1 132 = .ok (.invokevirtual 62, 3) := by decide +kernel
theorem dL_law_135 : decode mL_law.2.1 135 = .ok (.istore 6, 2) := by decide +kernel
theorem dL_law_137 : decode mL_law.2.1 137 = .ok (.aload_n 2, 1) := by decide +kernel
theorem dL_law_138 : decode mL_law.2.1 138 = .ok (.invokevirtual 63, 3) := by decide +kernel
theorem dL_law_141 : decode mL_law.2.1 141 = .ok (.iload 5, 2) := by decide +kernel
theorem dL_law_143 : decode mL_law.2.1 143 = .ok (.if_icmp .eq 5, 3) := by decide +kernel
theorem dL_law_146 : decode mL_law.2.1 146 = .ok (.iconst 0, 1) := by decide +kernel
theorem dL_law_147 : decode mL_law.2.1 147 = .ok (.ireturn, 1) := by decide +kernel
theorem dL_law_148 : decode mL_law.2.1 148 = .ok (.iload 5, 2) := by decide +kernel
theorem dL_law_150 : decode mL_law.2.1 150 = .ok (.ifCond .ne 15, 3) := by decide +kernel
theorem dL_law_153 : decode mL_law.2.1 153 = .ok (.aload_n 3, 1) := by decide +kernel
theorem dL_law_154 : decode mL_law.2.1 154 = .ok (.iconst 0, 1) := by decide +kernel
theorem dL_law_155 : decode mL_law.2.1 155 = .ok (.laload, 1) := by decide +kernel
theorem dL_law_156 : decode mL_law.2.1 156 = .ok (.iload 6, 2) := by decide +kernel
theorem dL_law_158 : decode mL_law.2.1 158 = .ok (.i2l, 1) := by decide +kernel
theorem dL_law_159 : decode mL_law.2.1 159 = .ok (.lcmp, 1) := by decide +kernel
theorem dL_law_160 : decode mL_law.2.1 160 = .ok (.ifCond .eq 5, 3) := by decide +kernel
theorem dL_law_163 : decode mL_law.2.1 163 = .ok (.iconst 0, 1) := by decide +kernel
theorem dL_law_164 : decode mL_law.2.1 164 = .ok (.ireturn, 1) := by decide +kernel
theorem dL_law_165 : decode mL_law.2.1 165 = .ok (.goto 764, 3) := by decide +kernel
theorem dL_law_168 : decode mL_law.2.1 168 = .ok (.aload_n 1, 1) := by decide +kernel
theorem dL_law_169 : decode mL_law.2.1 169 = .ok (.aload_n 0, 1) := by decide +kernel
theorem dL_law_170 : decode mL_law.2.1 170 = .ok (.iload 4, 2) := by decide +kernel
theorem dL_law_172 : decode mL_law.2.1 172 = .ok (.iconst 1, 1) := by decide +kernel
theorem dL_law_173 : decode mL_law.2.1 173 = .ok (.iadd, 1) := by decide +kernel
theorem dL_law_174 : decode mL_law.2.1 174 = .ok (.iaload, 1) := by decide +kernel
theorem dL_law_175 : decode mL_law.2.1 175 = .ok (.aload_n 3, 1) := by decide +kernel
theorem dL_law_176 : decode mL_law.2.1 176 = .ok (.invokestatic 67, 3) := by decide +kernel
theorem dL_law_179 : decode mL_law.2.1 179 = .ok (.istore 5, 2) := by decide +kernel
theorem dL_law_181 : decode mL_law.2.1 181 = .ok (.aload_n 2, 1) := by decide +kernel
theorem dL_law_182 : decode mL_law.2.1 182 = .ok (.aload_n 0, 1) := by decide +kernel
theorem dL_law_183 : decode mL_law.2.1 183 = .ok (.iload 4, 2) := by decide +kernel
theorem dL_law_185 : decode mL_law.2.1 185 = .ok (.iconst 1, 1) := by decide +kernel
theorem dL_law_186 : decode mL_law.2.1 186 = .ok (.iadd, 1) := by decide +kernel
theorem dL_law_187 : decode mL_law.2.1 187 = .ok (.iaload, 1) := by decide +kernel
theorem dL_law_188 : decode mL_law.2.1 188 = .ok (.invokevirtual 69, 3) := by decide +kernel
theorem dL_law_191 : decode mL_law.2.1 191 = .ok (.istore 6, 2) := by decide +kernel
theorem dL_law_193 : decode mL_law.2.1 193 = .ok (.aload_n 2, 1) := by decide +kernel
theorem dL_law_194 : decode mL_law.2.1 194 = .ok (.invokevirtual 63, 3) := by decide +kernel
theorem dL_law_197 : decode mL_law.2.1 197 = .ok (.iload 5, 2) := by decide +kernel
theorem dL_law_199 : decode mL_law.2.1 199 = .ok (.if_icmp .eq 5, 3) := by decide +kernel
theorem dL_law_202 : decode mL_law.2.1 202 = .ok (.iconst 0, 1) := by decide +kernel
theorem dL_law_203 : decode mL_law.2.1 203 = .ok (.ireturn, 1) := by decide +kernel
theorem dL_law_204 : decode mL_law.2.1 204 = .ok (.iload 5, 2) := by decide +kernel
theorem dL_law_206 : decode mL_law.2.1 206 = .ok (.ifCond .ne 15, 3) := by decide +kernel
theorem dL_law_209 : decode mL_law.2.1 209 = .ok (.aload_n 3, 1) := by decide +kernel
theorem dL_law_210 : decode mL_law.2.1 210 = .ok (.iconst 0, 1) := by decide +kernel
theorem dL_law_211 : decode mL_law.2.1 211 = .ok (.laload, 1) := by decide +kernel
theorem dL_law_212 : decode mL_law.2.1 212 = .ok (.iload 6, 2) := by decide +kernel
theorem dL_law_214 : decode mL_law.2.1 214 = .ok (.i2l, 1) := by decide +kernel
theorem dL_law_215 : decode mL_law.2.1 215 = .ok (.lcmp, 1) := by decide +kernel
theorem dL_law_216 : decode mL_law.2.1 216 = .ok (.ifCond .eq 5, 3) := by decide +kernel
theorem dL_law_219 : decode mL_law.2.1 219 = .ok (.iconst 0, 1) := by decide +kernel
theorem dL_law_220 : decode mL_law.2.1 220 = .ok (.ireturn, 1) := by decide +kernel
theorem dL_law_221 : decode mL_law.2.1 221 = .ok (.goto 708, 3) := by decide +kernel
theorem dL_law_224 : decode mL_law.2.1 224 = .ok (.aload_n 1, 1) := by decide +kernel
theorem dL_law_225 : decode mL_law.2.1 225 = .ok (.aload_n 0, 1) := by decide +kernel
theorem dL_law_226 : decode mL_law.2.1 226 = .ok (.iload 4, 2) := by decide +kernel
theorem dL_law_228 : decode mL_law.2.1 228 = .ok (.iconst 1, 1) := by decide +kernel
theorem dL_law_229 : decode mL_law.2.1 229 = .ok (.iadd, 1) := by decide +kernel
theorem dL_law_230 : decode mL_law.2.1 230 = .ok (.iaload, 1) := by decide +kernel
theorem dL_law_231 : decode mL_law.2.1 231 = .ok (.aload_n 0, 1) := by decide +kernel
theorem dL_law_232 : decode mL_law.2.1 232 = .ok (.iload 4, 2) := by decide +kernel
theorem dL_law_234 : decode mL_law.2.1 234 = .ok (.iconst 2, 1) := by decide +kernel
theorem dL_law_235 : decode mL_law.2.1 235 = .ok (.iadd, 1) := by decide +kernel
theorem dL_law_236 : decode mL_law.2.1 236 = .ok (.iaload, 1) := by decide +kernel
theorem dL_law_237 : decode mL_law.2.1 237 = .ok (.aload_n 0, 1) := by decide +kernel
theorem dL_law_238 : decode mL_law.2.1 238 = .ok (.iload 4, 2) := by decide +kernel
theorem dL_law_240 : decode mL_law.2.1 240 = .ok (.iconst 3, 1) := by decide +kernel
theorem dL_law_241 : decode mL_law.2.1 241 = .ok (.iadd, 1) := by decide +kernel
theorem dL_law_242 : decode mL_law.2.1 242 = .ok (.iaload, 1) := by decide +kernel
theorem dL_law_243 : decode mL_law.2.1 243 = .ok (.aload_n 3, 1) := by decide +kernel
theorem dL_law_244 : decode mL_law.2.1 244 = .ok (.invokestatic 70, 3) := by decide +kernel
theorem dL_law_247 : decode mL_law.2.1 247 = .ok (.istore 5, 2) := by decide +kernel
theorem dL_law_249 : decode mL_law.2.1 249 = .ok (.aload_n 2, 1) := by decide +kernel
theorem dL_law_250 : decode mL_law.2.1 250 = .ok (.aload_n 0, 1) := by decide +kernel
theorem dL_law_251 : decode mL_law.2.1 251 = .ok (.iload 4, 2) := by decide +kernel
theorem dL_law_253 : decode mL_law.2.1 253 = .ok (.iconst 1, 1) := by decide +kernel
theorem dL_law_254 : decode mL_law.2.1 254 = .ok (.iadd, 1) := by decide +kernel
theorem dL_law_255 : decode mL_law.2.1 255 = .ok (.iaload, 1) := by decide +kernel
theorem dL_law_256 : decode mL_law.2.1 256 = .ok (.aload_n 0, 1) := by decide +kernel
theorem dL_law_257 : decode mL_law.2.1 257 = .ok (.iload 4, 2) := by decide +kernel
theorem dL_law_259 : decode mL_law.2.1 259 = .ok (.iconst 2, 1) := by decide +kernel
theorem dL_law_260 : decode mL_law.2.1 260 = .ok (.iadd, 1) := by decide +kernel
theorem dL_law_261 : decode mL_law.2.1 261 = .ok (.iaload, 1) := by decide +kernel
theorem dL_law_262 : decode mL_law.2.1 262 = .ok (.aload_n 0, 1) := by decide +kernel
theorem dL_law_263 : decode mL_law.2.1 263 = .ok (.iload 4, 2) := by decide +kernel
theorem dL_law_265 : decode mL_law.2.1 265 = .ok (.iconst 3, 1) := by decide +kernel
theorem dL_law_266 : decode mL_law.2.1 266 = .ok (.iadd, 1) := by decide +kernel
theorem dL_law_267 : decode mL_law.2.1 267 = .ok (.iaload, 1) := by decide +kernel
theorem dL_law_268 : decode mL_law.2.1 268 = .ok (.invokevirtual 73, 3) := by decide +kernel
theorem dL_law_271 : decode mL_law.2.1 271 = .ok (.istore 6, 2) := by decide +kernel
theorem dL_law_273 : decode mL_law.2.1 273 = .ok (.aload_n 2, 1) := by decide +kernel
theorem dL_law_274 : decode mL_law.2.1 274 = .ok (.invokevirtual 63, 3) := by decide +kernel
theorem dL_law_277 : decode mL_law.2.1 277 = .ok (.iload 5, 2) := by decide +kernel
theorem dL_law_279 : decode mL_law.2.1 279 = .ok (.if_icmp .eq 5, 3) := by decide +kernel
theorem dL_law_282 : decode mL_law.2.1 282 = .ok (.iconst 0, 1) := by decide +kernel
theorem dL_law_283 : decode mL_law.2.1 283 = .ok (.ireturn, 1) := by decide +kernel
theorem dL_law_284 : decode mL_law.2.1 284 = .ok (.iload 5, 2) := by decide +kernel
theorem dL_law_286 : decode mL_law.2.1 286 = .ok (.ifCond .ne 22, 3) := by decide +kernel
theorem dL_law_289 : decode mL_law.2.1 289 = .ok (.aload_n 3, 1) := by decide +kernel
theorem dL_law_290 : decode mL_law.2.1 290 = .ok (.iconst 0, 1) := by decide +kernel
theorem dL_law_291 : decode mL_law.2.1 291 = .ok (.laload, 1) := by decide +kernel
theorem dL_law_292 : decode mL_law.2.1 292 = .ok (.iload 6, 2) := by decide +kernel
theorem dL_law_294 : decode mL_law.2.1 294 = .ok (.ifCond .eq 7, 3) := by decide +kernel
theorem dL_law_297 : decode mL_law.2.1 297 = .ok (.lconst 1, 1) := by decide +kernel
theorem dL_law_298 : decode mL_law.2.1 298 = .ok (.goto 4, 3) := by decide +kernel
theorem dL_law_301 : decode mL_law.2.1 301 = .ok (.lconst 0, 1) := by decide +kernel
theorem dL_law_302 : decode mL_law.2.1 302 = .ok (.lcmp, 1) := by decide +kernel
theorem dL_law_303 : decode mL_law.2.1 303 = .ok (.ifCond .eq 5, 3) := by decide +kernel
theorem dL_law_306 : decode mL_law.2.1 306 = .ok (.iconst 0, 1) := by decide +kernel
theorem dL_law_307 : decode mL_law.2.1 307 = .ok (.ireturn, 1) := by decide +kernel
theorem dL_law_308 : decode mL_law.2.1 308 = .ok (.goto 621, 3) := by decide +kernel
theorem dL_law_311 : decode mL_law.2.1 311 = .ok (.aload_n 1, 1) := by decide +kernel
theorem dL_law_312 : decode mL_law.2.1 312 = .ok (.aload_n 0, 1) := by decide +kernel
theorem dL_law_313 : decode mL_law.2.1 313 = .ok (.iload 4, 2) := by decide +kernel
theorem dL_law_315 : decode mL_law.2.1 315 = .ok (.iconst 1, 1) := by decide +kernel
theorem dL_law_316 : decode mL_law.2.1 316 = .ok (.iadd, 1) := by decide +kernel
theorem dL_law_317 : decode mL_law.2.1 317 = .ok (.iaload, 1) := by decide +kernel
theorem dL_law_318 : decode mL_law.2.1 318 = .ok (.invokestatic 74, 3) := by decide +kernel
theorem dL_law_321 : decode mL_law.2.1 321 = .ok (.istore 5, 2) := by decide +kernel
theorem dL_law_323 : decode mL_law.2.1 323 = .ok (.aload_n 2, 1) := by decide +kernel
theorem dL_law_324 : decode mL_law.2.1 324 = .ok (.aload_n 0, 1) := by decide +kernel
theorem dL_law_325 : decode mL_law.2.1 325 = .ok (.iload 4, 2) := by decide +kernel
theorem dL_law_327 : decode mL_law.2.1 327 = .ok (.iconst 1, 1) := by decide +kernel
theorem dL_law_328 : decode mL_law.2.1 328 = .ok (.iadd, 1) := by decide +kernel
theorem dL_law_329 : decode mL_law.2.1 329 = .ok (.iaload, 1) := by decide +kernel
theorem dL_law_330 : decode mL_law.2.1 330 = .ok (.invokevirtual 77, 3) := by decide +kernel
theorem dL_law_333 : decode mL_law.2.1 333 = .ok (.aload_n 2, 1) := by decide +kernel
theorem dL_law_334 : decode mL_law.2.1 334 = .ok (.invokevirtual 63, 3) := by decide +kernel
theorem dL_law_337 : decode mL_law.2.1 337 = .ok (.iload 5, 2) := by decide +kernel
theorem dL_law_339 : decode mL_law.2.1 339 = .ok (.if_icmp .eq 5, 3) := by decide +kernel
theorem dL_law_342 : decode mL_law.2.1 342 = .ok (.iconst 0, 1) := by decide +kernel
theorem dL_law_343 : decode mL_law.2.1 343 = .ok (.ireturn, 1) := by decide +kernel
theorem dL_law_344 : decode mL_law.2.1 344 = .ok (.goto 585, 3) := by decide +kernel
theorem dL_law_347 : decode mL_law.2.1 347 = .ok (.aload_n 1, 1) := by decide +kernel
theorem dL_law_348 : decode mL_law.2.1 348 = .ok (.aload_n 0, 1) := by decide +kernel
theorem dL_law_349 : decode mL_law.2.1 349 = .ok (.iload 4, 2) := by decide +kernel
theorem dL_law_351 : decode mL_law.2.1 351 = .ok (.iconst 1, 1) := by decide +kernel
theorem dL_law_352 : decode mL_law.2.1 352 = .ok (.iadd, 1) := by decide +kernel
theorem dL_law_353 : decode mL_law.2.1 353 = .ok (.iaload, 1) := by decide +kernel
theorem dL_law_354 : decode mL_law.2.1 354 = .ok (.aload_n 3, 1) := by decide +kernel
theorem dL_law_355 : decode mL_law.2.1 355 = .ok (.invokestatic 78, 3) := by decide +kernel
theorem dL_law_358 : decode mL_law.2.1 358 = .ok (.istore 5, 2) := by decide +kernel
theorem dL_law_360 : decode mL_law.2.1 360 = .ok (.aload_n 2, 1) := by decide +kernel
theorem dL_law_361 : decode mL_law.2.1 361 = .ok (.aload_n 0, 1) := by decide +kernel
theorem dL_law_362 : decode mL_law.2.1 362 = .ok (.iload 4, 2) := by decide +kernel
theorem dL_law_364 : decode mL_law.2.1 364 = .ok (.iconst 1, 1) := by decide +kernel
theorem dL_law_365 : decode mL_law.2.1 365 = .ok (.iadd, 1) := by decide +kernel
theorem dL_law_366 : decode mL_law.2.1 366 = .ok (.iaload, 1) := by decide +kernel
theorem dL_law_367 : decode mL_law.2.1 367 = .ok (.invokevirtual 80, 3) := by decide +kernel
theorem dL_law_370 : decode mL_law.2.1 370 = .ok (.istore 6, 2) := by decide +kernel
theorem dL_law_372 : decode mL_law.2.1 372 = .ok (.aload_n 2, 1) := by decide +kernel
theorem dL_law_373 : decode mL_law.2.1 373 = .ok (.invokevirtual 63, 3) := by decide +kernel
theorem dL_law_376 : decode mL_law.2.1 376 = .ok (.iload 5, 2) := by decide +kernel
theorem dL_law_378 : decode mL_law.2.1 378 = .ok (.if_icmp .eq 5, 3) := by decide +kernel
theorem dL_law_381 : decode mL_law.2.1 381 = .ok (.iconst 0, 1) := by decide +kernel
theorem dL_law_382 : decode mL_law.2.1 382 = .ok (.ireturn, 1) := by decide +kernel
theorem dL_law_383 : decode mL_law.2.1 383 = .ok (.iload 5, 2) := by decide +kernel
theorem dL_law_385 : decode mL_law.2.1 385 = .ok (.ifCond .ne 22, 3) := by decide +kernel
theorem dL_law_388 : decode mL_law.2.1 388 = .ok (.aload_n 3, 1) := by decide +kernel
theorem dL_law_389 : decode mL_law.2.1 389 = .ok (.iconst 0, 1) := by decide +kernel
theorem dL_law_390 : decode mL_law.2.1 390 = .ok (.laload, 1) := by decide +kernel
theorem dL_law_391 : decode mL_law.2.1 391 = .ok (.iload 6, 2) := by decide +kernel
theorem dL_law_393 : decode mL_law.2.1 393 = .ok (.ifCond .eq 7, 3) := by decide +kernel
theorem dL_law_396 : decode mL_law.2.1 396 = .ok (.lconst 1, 1) := by decide +kernel
theorem dL_law_397 : decode mL_law.2.1 397 = .ok (.goto 4, 3) := by decide +kernel
theorem dL_law_400 : decode mL_law.2.1 400 = .ok (.lconst 0, 1) := by decide +kernel
theorem dL_law_401 : decode mL_law.2.1 401 = .ok (.lcmp, 1) := by decide +kernel
theorem dL_law_402 : decode mL_law.2.1 402 = .ok (.ifCond .eq 5, 3) := by decide +kernel
theorem dL_law_405 : decode mL_law.2.1 405 = .ok (.iconst 0, 1) := by decide +kernel
theorem dL_law_406 : decode mL_law.2.1 406 = .ok (.ireturn, 1) := by decide +kernel
theorem dL_law_407 : decode mL_law.2.1 407 = .ok (.goto 522, 3) := by decide +kernel
theorem dL_law_410 : decode mL_law.2.1 410 = .ok (.aload_n 1, 1) := by decide +kernel
theorem dL_law_411 : decode mL_law.2.1 411 = .ok (.aload_n 0, 1) := by decide +kernel
theorem dL_law_412 : decode mL_law.2.1 412 = .ok (.iload 4, 2) := by decide +kernel
theorem dL_law_414 : decode mL_law.2.1 414 = .ok (.iconst 1, 1) := by decide +kernel
theorem dL_law_415 : decode mL_law.2.1 415 = .ok (.iadd, 1) := by decide +kernel
theorem dL_law_416 : decode mL_law.2.1 416 = .ok (.iaload, 1) := by decide +kernel
theorem dL_law_417 : decode mL_law.2.1 417 = .ok (.aload_n 3, 1) := by decide +kernel
theorem dL_law_418 : decode mL_law.2.1 418 = .ok (.invokestatic 81, 3) := by decide +kernel
theorem dL_law_421 : decode mL_law.2.1 421 = .ok (.istore 5, 2) := by decide +kernel
theorem dL_law_423 : decode mL_law.2.1 423 = .ok (.aload_n 2, 1) := by decide +kernel
theorem dL_law_424 : decode mL_law.2.1 424 = .ok (.aload_n 0, 1) := by decide +kernel
theorem dL_law_425 : decode mL_law.2.1 425 = .ok (.iload 4, 2) := by decide +kernel
theorem dL_law_427 : decode mL_law.2.1 427 = .ok (.iconst 1, 1) := by decide +kernel
theorem dL_law_428 : decode mL_law.2.1 428 = .ok (.iadd, 1) := by decide +kernel
theorem dL_law_429 : decode mL_law.2.1 429 = .ok (.iaload, 1) := by decide +kernel
theorem dL_law_430 : decode mL_law.2.1 430 = .ok (.invokevirtual 83, 3) := by decide +kernel
theorem dL_law_433 : decode mL_law.2.1 433 = .ok (.istore 6, 2) := by decide +kernel
theorem dL_law_435 : decode mL_law.2.1 435 = .ok (.aload_n 2, 1) := by decide +kernel
theorem dL_law_436 : decode mL_law.2.1 436 = .ok (.invokevirtual 63, 3) := by decide +kernel
theorem dL_law_439 : decode mL_law.2.1 439 = .ok (.iload 5, 2) := by decide +kernel
theorem dL_law_441 : decode mL_law.2.1 441 = .ok (.if_icmp .eq 5, 3) := by decide +kernel
theorem dL_law_444 : decode mL_law.2.1 444 = .ok (.iconst 0, 1) := by decide +kernel
theorem dL_law_445 : decode mL_law.2.1 445 = .ok (.ireturn, 1) := by decide +kernel
theorem dL_law_446 : decode mL_law.2.1 446 = .ok (.iload 5, 2) := by decide +kernel
theorem dL_law_448 : decode mL_law.2.1 448 = .ok (.ifCond .ne 22, 3) := by decide +kernel
theorem dL_law_451 : decode mL_law.2.1 451 = .ok (.aload_n 3, 1) := by decide +kernel
theorem dL_law_452 : decode mL_law.2.1 452 = .ok (.iconst 0, 1) := by decide +kernel
theorem dL_law_453 : decode mL_law.2.1 453 = .ok (.laload, 1) := by decide +kernel
theorem dL_law_454 : decode mL_law.2.1 454 = .ok (.iload 6, 2) := by decide +kernel
theorem dL_law_456 : decode mL_law.2.1 456 = .ok (.ifCond .eq 7, 3) := by decide +kernel
theorem dL_law_459 : decode mL_law.2.1 459 = .ok (.lconst 1, 1) := by decide +kernel
theorem dL_law_460 : decode mL_law.2.1 460 = .ok (.goto 4, 3) := by decide +kernel
theorem dL_law_463 : decode mL_law.2.1 463 = .ok (.lconst 0, 1) := by decide +kernel
theorem dL_law_464 : decode mL_law.2.1 464 = .ok (.lcmp, 1) := by decide +kernel
theorem dL_law_465 : decode mL_law.2.1 465 = .ok (.ifCond .eq 5, 3) := by decide +kernel
theorem dL_law_468 : decode mL_law.2.1 468 = .ok (.iconst 0, 1) := by decide +kernel
theorem dL_law_469 : decode mL_law.2.1 469 = .ok (.ireturn, 1) := by decide +kernel
theorem dL_law_470 : decode mL_law.2.1 470 = .ok (.goto 459, 3) := by decide +kernel
theorem dL_law_473 : decode mL_law.2.1 473 = .ok (.aload_n 1, 1) := by decide +kernel
theorem dL_law_474 : decode mL_law.2.1 474 = .ok (.aload_n 0, 1) := by decide +kernel
theorem dL_law_475 : decode mL_law.2.1 475 = .ok (.iload 4, 2) := by decide +kernel
theorem dL_law_477 : decode mL_law.2.1 477 = .ok (.iconst 1, 1) := by decide +kernel
theorem dL_law_478 : decode mL_law.2.1 478 = .ok (.iadd, 1) := by decide +kernel
theorem dL_law_479 : decode mL_law.2.1 479 = .ok (.iaload, 1) := by decide +kernel
theorem dL_law_480 : decode mL_law.2.1 480 = .ok (.aload_n 0, 1) := by decide +kernel
theorem dL_law_481 : decode mL_law.2.1 481 = .ok (.iload 4, 2) := by decide +kernel
theorem dL_law_483 : decode mL_law.2.1 483 = .ok (.iconst 2, 1) := by decide +kernel
theorem dL_law_484 : decode mL_law.2.1 484 = .ok (.iadd, 1) := by decide +kernel
theorem dL_law_485 : decode mL_law.2.1 485 = .ok (.iaload, 1) := by decide +kernel
theorem dL_law_486 : decode mL_law.2.1 486 = .ok (.aload_n 3, 1) := by decide +kernel
theorem dL_law_487 : decode mL_law.2.1 487 = .ok (.invokestatic 84, 3) := by decide +kernel
theorem dL_law_490 : decode mL_law.2.1 490 = .ok (.istore 5, 2) := by decide +kernel
theorem dL_law_492 : decode mL_law.2.1 492 = .ok (.aload_n 2, 1) := by decide +kernel
theorem dL_law_493 : decode mL_law.2.1 493 = .ok (.aload_n 0, 1) := by decide +kernel
theorem dL_law_494 : decode mL_law.2.1 494 = .ok (.iload 4, 2) := by decide +kernel
theorem dL_law_496 : decode mL_law.2.1 496 = .ok (.iconst 1, 1) := by decide +kernel
theorem dL_law_497 : decode mL_law.2.1 497 = .ok (.iadd, 1) := by decide +kernel
theorem dL_law_498 : decode mL_law.2.1 498 = .ok (.iaload, 1) := by decide +kernel
theorem dL_law_499 : decode mL_law.2.1 499 = .ok (.aload_n 0, 1) := by decide +kernel
theorem dL_law_500 : decode mL_law.2.1 500 = .ok (.iload 4, 2) := by decide +kernel
theorem dL_law_502 : decode mL_law.2.1 502 = .ok (.iconst 2, 1) := by decide +kernel
theorem dL_law_503 : decode mL_law.2.1 503 = .ok (.iadd, 1) := by decide +kernel
theorem dL_law_504 : decode mL_law.2.1 504 = .ok (.iaload, 1) := by decide +kernel
theorem dL_law_505 : decode mL_law.2.1 505 = .ok (.invokevirtual 87, 3) := by decide +kernel
theorem dL_law_508 : decode mL_law.2.1 508 = .ok (.istore 6, 2) := by decide +kernel
theorem dL_law_510 : decode mL_law.2.1 510 = .ok (.aload_n 2, 1) := by decide +kernel
theorem dL_law_511 : decode mL_law.2.1 511 = .ok (.invokevirtual 63, 3) := by decide +kernel
theorem dL_law_514 : decode mL_law.2.1 514 = .ok (.iload 5, 2) := by decide +kernel
theorem dL_law_516 : decode mL_law.2.1 516 = .ok (.if_icmp .eq 5, 3) := by decide +kernel
theorem dL_law_519 : decode mL_law.2.1 519 = .ok (.iconst 0, 1) := by decide +kernel
theorem dL_law_520 : decode mL_law.2.1 520 = .ok (.ireturn, 1) := by decide +kernel
theorem dL_law_521 : decode mL_law.2.1 521 = .ok (.iload 5, 2) := by decide +kernel
theorem dL_law_523 : decode mL_law.2.1 523 = .ok (.ifCond .ne 22, 3) := by decide +kernel
theorem dL_law_526 : decode mL_law.2.1 526 = .ok (.aload_n 3, 1) := by decide +kernel
theorem dL_law_527 : decode mL_law.2.1 527 = .ok (.iconst 0, 1) := by decide +kernel
theorem dL_law_528 : decode mL_law.2.1 528 = .ok (.laload, 1) := by decide +kernel
theorem dL_law_529 : decode mL_law.2.1 529 = .ok (.iload 6, 2) := by decide +kernel
theorem dL_law_531 : decode mL_law.2.1 531 = .ok (.ifCond .eq 7, 3) := by decide +kernel
theorem dL_law_534 : decode mL_law.2.1 534 = .ok (.lconst 1, 1) := by decide +kernel
theorem dL_law_535 : decode mL_law.2.1 535 = .ok (.goto 4, 3) := by decide +kernel
theorem dL_law_538 : decode mL_law.2.1 538 = .ok (.lconst 0, 1) := by decide +kernel
theorem dL_law_539 : decode mL_law.2.1 539 = .ok (.lcmp, 1) := by decide +kernel
theorem dL_law_540 : decode mL_law.2.1 540 = .ok (.ifCond .eq 5, 3) := by decide +kernel
theorem dL_law_543 : decode mL_law.2.1 543 = .ok (.iconst 0, 1) := by decide +kernel
theorem dL_law_544 : decode mL_law.2.1 544 = .ok (.ireturn, 1) := by decide +kernel
theorem dL_law_545 : decode mL_law.2.1 545 = .ok (.goto 384, 3) := by decide +kernel
theorem dL_law_548 : decode mL_law.2.1 548 = .ok (.aload_n 1, 1) := by decide +kernel
theorem dL_law_549 : decode mL_law.2.1 549 = .ok (.aload_n 0, 1) := by decide +kernel
theorem dL_law_550 : decode mL_law.2.1 550 = .ok (.iload 4, 2) := by decide +kernel
theorem dL_law_552 : decode mL_law.2.1 552 = .ok (.iconst 1, 1) := by decide +kernel
theorem dL_law_553 : decode mL_law.2.1 553 = .ok (.iadd, 1) := by decide +kernel
theorem dL_law_554 : decode mL_law.2.1 554 = .ok (.iaload, 1) := by decide +kernel
theorem dL_law_555 : decode mL_law.2.1 555 = .ok (.aload_n 0, 1) := by decide +kernel
theorem dL_law_556 : decode mL_law.2.1 556 = .ok (.iload 4, 2) := by decide +kernel
theorem dL_law_558 : decode mL_law.2.1 558 = .ok (.iconst 2, 1) := by decide +kernel
theorem dL_law_559 : decode mL_law.2.1 559 = .ok (.iadd, 1) := by decide +kernel
theorem dL_law_560 : decode mL_law.2.1 560 = .ok (.iaload, 1) := by decide +kernel
theorem dL_law_561 : decode mL_law.2.1 561 = .ok (.aload_n 3, 1) := by decide +kernel
theorem dL_law_562 : decode mL_law.2.1 562 = .ok (.invokestatic 88, 3) := by decide +kernel
theorem dL_law_565 : decode mL_law.2.1 565 = .ok (.istore 5, 2) := by decide +kernel
theorem dL_law_567 : decode mL_law.2.1 567 = .ok (.aload_n 2, 1) := by decide +kernel
theorem dL_law_568 : decode mL_law.2.1 568 = .ok (.aload_n 0, 1) := by decide +kernel
theorem dL_law_569 : decode mL_law.2.1 569 = .ok (.iload 4, 2) := by decide +kernel
theorem dL_law_571 : decode mL_law.2.1 571 = .ok (.iconst 1, 1) := by decide +kernel
theorem dL_law_572 : decode mL_law.2.1 572 = .ok (.iadd, 1) := by decide +kernel
theorem dL_law_573 : decode mL_law.2.1 573 = .ok (.iaload, 1) := by decide +kernel
theorem dL_law_574 : decode mL_law.2.1 574 = .ok (.aload_n 0, 1) := by decide +kernel
theorem dL_law_575 : decode mL_law.2.1 575 = .ok (.iload 4, 2) := by decide +kernel
theorem dL_law_577 : decode mL_law.2.1 577 = .ok (.iconst 2, 1) := by decide +kernel
theorem dL_law_578 : decode mL_law.2.1 578 = .ok (.iadd, 1) := by decide +kernel
theorem dL_law_579 : decode mL_law.2.1 579 = .ok (.iaload, 1) := by decide +kernel
theorem dL_law_580 : decode mL_law.2.1 580 = .ok (.invokevirtual 90, 3) := by decide +kernel
theorem dL_law_583 : decode mL_law.2.1 583 = .ok (.istore 6, 2) := by decide +kernel
theorem dL_law_585 : decode mL_law.2.1 585 = .ok (.aload_n 2, 1) := by decide +kernel
theorem dL_law_586 : decode mL_law.2.1 586 = .ok (.invokevirtual 63, 3) := by decide +kernel
theorem dL_law_589 : decode mL_law.2.1 589 = .ok (.iload 5, 2) := by decide +kernel
theorem dL_law_591 : decode mL_law.2.1 591 = .ok (.if_icmp .eq 5, 3) := by decide +kernel
theorem dL_law_594 : decode mL_law.2.1 594 = .ok (.iconst 0, 1) := by decide +kernel
theorem dL_law_595 : decode mL_law.2.1 595 = .ok (.ireturn, 1) := by decide +kernel
theorem dL_law_596 : decode mL_law.2.1 596 = .ok (.iload 5, 2) := by decide +kernel
theorem dL_law_598 : decode mL_law.2.1 598 = .ok (.ifCond .ne 22, 3) := by decide +kernel
theorem dL_law_601 : decode mL_law.2.1 601 = .ok (.aload_n 3, 1) := by decide +kernel
theorem dL_law_602 : decode mL_law.2.1 602 = .ok (.iconst 0, 1) := by decide +kernel
theorem dL_law_603 : decode mL_law.2.1 603 = .ok (.laload, 1) := by decide +kernel
theorem dL_law_604 : decode mL_law.2.1 604 = .ok (.iload 6, 2) := by decide +kernel
theorem dL_law_606 : decode mL_law.2.1 606 = .ok (.ifCond .eq 7, 3) := by decide +kernel
theorem dL_law_609 : decode mL_law.2.1 609 = .ok (.lconst 1, 1) := by decide +kernel
theorem dL_law_610 : decode mL_law.2.1 610 = .ok (.goto 4, 3) := by decide +kernel
theorem dL_law_613 : decode mL_law.2.1 613 = .ok (.lconst 0, 1) := by decide +kernel
theorem dL_law_614 : decode mL_law.2.1 614 = .ok (.lcmp, 1) := by decide +kernel
theorem dL_law_615 : decode mL_law.2.1 615 = .ok (.ifCond .eq 5, 3) := by decide +kernel
theorem dL_law_618 : decode mL_law.2.1 618 = .ok (.iconst 0, 1) := by decide +kernel
theorem dL_law_619 : decode mL_law.2.1 619 = .ok (.ireturn, 1) := by decide +kernel
theorem dL_law_620 : decode mL_law.2.1 620 = .ok (.goto 309, 3) := by decide +kernel
theorem dL_law_623 : decode mL_law.2.1 623 = .ok (.aload_n 1, 1) := by decide +kernel
theorem dL_law_624 : decode mL_law.2.1 624 = .ok (.aload_n 0, 1) := by decide +kernel
theorem dL_law_625 : decode mL_law.2.1 625 = .ok (.iload 4, 2) := by decide +kernel
theorem dL_law_627 : decode mL_law.2.1 627 = .ok (.iconst 1, 1) := by decide +kernel
theorem dL_law_628 : decode mL_law.2.1 628 = .ok (.iadd, 1) := by decide +kernel
theorem dL_law_629 : decode mL_law.2.1 629 = .ok (.iaload, 1) := by decide +kernel
theorem dL_law_630 : decode mL_law.2.1 630 = .ok (.aload_n 3, 1) := by decide +kernel
theorem dL_law_631 : decode mL_law.2.1 631 = .ok (.invokestatic 91, 3) := by decide +kernel
theorem dL_law_634 : decode mL_law.2.1 634 = .ok (.istore 5, 2) := by decide +kernel
theorem dL_law_636 : decode mL_law.2.1 636 = .ok (.aload_n 2, 1) := by decide +kernel
theorem dL_law_637 : decode mL_law.2.1 637 = .ok (.aload_n 0, 1) := by decide +kernel
theorem dL_law_638 : decode mL_law.2.1 638 = .ok (.iload 4, 2) := by decide +kernel
theorem dL_law_640 : decode mL_law.2.1 640 = .ok (.iconst 1, 1) := by decide +kernel
theorem dL_law_641 : decode mL_law.2.1 641 = .ok (.iadd, 1) := by decide +kernel
theorem dL_law_642 : decode mL_law.2.1 642 = .ok (.iaload, 1) := by decide +kernel
theorem dL_law_643 : decode mL_law.2.1 643 = .ok (.invokevirtual 93, 3) := by decide +kernel
theorem dL_law_646 : decode mL_law.2.1 646 = .ok (.istore 6, 2) := by decide +kernel
theorem dL_law_648 : decode mL_law.2.1 648 = .ok (.aload_n 2, 1) := by decide +kernel
theorem dL_law_649 : decode mL_law.2.1 649 = .ok (.invokevirtual 63, 3) := by decide +kernel
theorem dL_law_652 : decode mL_law.2.1 652 = .ok (.iload 5, 2) := by decide +kernel
theorem dL_law_654 : decode mL_law.2.1 654 = .ok (.if_icmp .eq 5, 3) := by decide +kernel
theorem dL_law_657 : decode mL_law.2.1 657 = .ok (.iconst 0, 1) := by decide +kernel
theorem dL_law_658 : decode mL_law.2.1 658 = .ok (.ireturn, 1) := by decide +kernel
theorem dL_law_659 : decode mL_law.2.1 659 = .ok (.iload 5, 2) := by decide +kernel
theorem dL_law_661 : decode mL_law.2.1 661 = .ok (.ifCond .ne 15, 3) := by decide +kernel
theorem dL_law_664 : decode mL_law.2.1 664 = .ok (.aload_n 3, 1) := by decide +kernel
theorem dL_law_665 : decode mL_law.2.1 665 = .ok (.iconst 0, 1) := by decide +kernel
theorem dL_law_666 : decode mL_law.2.1 666 = .ok (.laload, 1) := by decide +kernel
theorem dL_law_667 : decode mL_law.2.1 667 = .ok (.iload 6, 2) := by decide +kernel
theorem dL_law_669 : decode mL_law.2.1 669 = .ok (.i2l, 1) := by decide +kernel
theorem dL_law_670 : decode mL_law.2.1 670 = .ok (.lcmp, 1) := by decide +kernel
theorem dL_law_671 : decode mL_law.2.1 671 = .ok (.ifCond .eq 5, 3) := by decide +kernel
theorem dL_law_674 : decode mL_law.2.1 674 = .ok (.iconst 0, 1) := by decide +kernel
theorem dL_law_675 : decode mL_law.2.1 675 = .ok (.ireturn, 1) := by decide +kernel
theorem dL_law_676 : decode mL_law.2.1 676 = .ok (.goto 253, 3) := by decide +kernel
theorem dL_law_679 : decode mL_law.2.1 679 = .ok (.aload_n 1, 1) := by decide +kernel
theorem dL_law_680 : decode mL_law.2.1 680 = .ok (.aload_n 0, 1) := by decide +kernel
theorem dL_law_681 : decode mL_law.2.1 681 = .ok (.iload 4, 2) := by decide +kernel
theorem dL_law_683 : decode mL_law.2.1 683 = .ok (.iconst 1, 1) := by decide +kernel
theorem dL_law_684 : decode mL_law.2.1 684 = .ok (.iadd, 1) := by decide +kernel
theorem dL_law_685 : decode mL_law.2.1 685 = .ok (.iaload, 1) := by decide +kernel
theorem dL_law_686 : decode mL_law.2.1 686 = .ok (.aload_n 3, 1) := by decide +kernel
theorem dL_law_687 : decode mL_law.2.1 687 = .ok (.invokestatic 94, 3) := by decide +kernel
theorem dL_law_690 : decode mL_law.2.1 690 = .ok (.istore 5, 2) := by decide +kernel
theorem dL_law_692 : decode mL_law.2.1 692 = .ok (.aload_n 2, 1) := by decide +kernel
theorem dL_law_693 : decode mL_law.2.1 693 = .ok (.aload_n 0, 1) := by decide +kernel
theorem dL_law_694 : decode mL_law.2.1 694 = .ok (.iload 4, 2) := by decide +kernel
theorem dL_law_696 : decode mL_law.2.1 696 = .ok (.iconst 1, 1) := by decide +kernel
theorem dL_law_697 : decode mL_law.2.1 697 = .ok (.iadd, 1) := by decide +kernel
theorem dL_law_698 : decode mL_law.2.1 698 = .ok (.iaload, 1) := by decide +kernel
theorem dL_law_699 : decode mL_law.2.1 699 = .ok (.invokevirtual 96, 3) := by decide +kernel
theorem dL_law_702 : decode mL_law.2.1 702 = .ok (.istore 6, 2) := by decide +kernel
theorem dL_law_704 : decode mL_law.2.1 704 = .ok (.aload_n 2, 1) := by decide +kernel
theorem dL_law_705 : decode mL_law.2.1 705 = .ok (.invokevirtual 63, 3) := by decide +kernel
theorem dL_law_708 : decode mL_law.2.1 708 = .ok (.iload 5, 2) := by decide +kernel
theorem dL_law_710 : decode mL_law.2.1 710 = .ok (.if_icmp .eq 5, 3) := by decide +kernel
theorem dL_law_713 : decode mL_law.2.1 713 = .ok (.iconst 0, 1) := by decide +kernel
theorem dL_law_714 : decode mL_law.2.1 714 = .ok (.ireturn, 1) := by decide +kernel
theorem dL_law_715 : decode mL_law.2.1 715 = .ok (.iload 5, 2) := by decide +kernel
theorem dL_law_717 : decode mL_law.2.1 717 = .ok (.ifCond .ne 22, 3) := by decide +kernel
theorem dL_law_720 : decode mL_law.2.1 720 = .ok (.aload_n 3, 1) := by decide +kernel
theorem dL_law_721 : decode mL_law.2.1 721 = .ok (.iconst 0, 1) := by decide +kernel
theorem dL_law_722 : decode mL_law.2.1 722 = .ok (.laload, 1) := by decide +kernel
theorem dL_law_723 : decode mL_law.2.1 723 = .ok (.iload 6, 2) := by decide +kernel
theorem dL_law_725 : decode mL_law.2.1 725 = .ok (.ifCond .eq 7, 3) := by decide +kernel
theorem dL_law_728 : decode mL_law.2.1 728 = .ok (.lconst 1, 1) := by decide +kernel
theorem dL_law_729 : decode mL_law.2.1 729 = .ok (.goto 4, 3) := by decide +kernel
theorem dL_law_732 : decode mL_law.2.1 732 = .ok (.lconst 0, 1) := by decide +kernel
theorem dL_law_733 : decode mL_law.2.1 733 = .ok (.lcmp, 1) := by decide +kernel
theorem dL_law_734 : decode mL_law.2.1 734 = .ok (.ifCond .eq 5, 3) := by decide +kernel
theorem dL_law_737 : decode mL_law.2.1 737 = .ok (.iconst 0, 1) := by decide +kernel
theorem dL_law_738 : decode mL_law.2.1 738 = .ok (.ireturn, 1) := by decide +kernel
theorem dL_law_739 : decode mL_law.2.1 739 = .ok (.goto 190, 3) := by decide +kernel
theorem dL_law_742 : decode mL_law.2.1 742 = .ok (.aload_n 1, 1) := by decide +kernel
theorem dL_law_743 : decode mL_law.2.1 743 = .ok (.invokevirtual 97, 3) := by decide +kernel
theorem dL_law_746 : decode mL_law.2.1 746 = .ok (.aload_n 2, 1) := by decide +kernel
theorem dL_law_747 : decode mL_law.2.1 747 = .ok (.invokevirtual 100, 3) := by decide +kernel
theorem dL_law_750 : decode mL_law.2.1 750 = .ok (.if_icmp .eq 179, 3) := by decide +kernel
theorem dL_law_753 : decode mL_law.2.1 753 = .ok (.iconst 0, 1) := by decide +kernel
theorem dL_law_754 : decode mL_law.2.1 754 = .ok (.ireturn, 1) := by decide +kernel
theorem dL_law_755 : decode mL_law.2.1 755 = .ok (.aload_n 1, 1) := by decide +kernel
theorem dL_law_756 : decode mL_law.2.1 756 = .ok (.aload_n 0, 1) := by decide +kernel
theorem dL_law_757 : decode mL_law.2.1 757 = .ok (.iload 4, 2) := by decide +kernel
theorem dL_law_759 : decode mL_law.2.1 759 = .ok (.iconst 1, 1) := by decide +kernel
theorem dL_law_760 : decode mL_law.2.1 760 = .ok (.iadd, 1) := by decide +kernel
theorem dL_law_761 : decode mL_law.2.1 761 = .ok (.iaload, 1) := by decide +kernel
theorem dL_law_762 : decode mL_law.2.1 762 = .ok (.aload_n 0, 1) := by decide +kernel
theorem dL_law_763 : decode mL_law.2.1 763 = .ok (.iload 4, 2) := by decide +kernel
theorem dL_law_765 : decode mL_law.2.1 765 = .ok (.iconst 2, 1) := by decide +kernel
theorem dL_law_766 : decode mL_law.2.1 766 = .ok (.iadd, 1) := by decide +kernel
theorem dL_law_767 : decode mL_law.2.1 767 = .ok (.iaload, 1) := by decide +kernel
theorem dL_law_768 : decode mL_law.2.1 768 = .ok (.aload_n 3, 1) := by decide +kernel
theorem dL_law_769 : decode mL_law.2.1 769 = .ok (.invokestatic 101, 3) := by decide +kernel
theorem dL_law_772 : decode mL_law.2.1 772 = .ok (.istore 5, 2) := by decide +kernel
theorem dL_law_774 : decode mL_law.2.1 774 = .ok (.aload_n 2, 1) := by decide +kernel
theorem dL_law_775 : decode mL_law.2.1 775 = .ok (.aload_n 0, 1) := by decide +kernel
theorem dL_law_776 : decode mL_law.2.1 776 = .ok (.iload 4, 2) := by decide +kernel
theorem dL_law_778 : decode mL_law.2.1 778 = .ok (.iconst 1, 1) := by decide +kernel
theorem dL_law_779 : decode mL_law.2.1 779 = .ok (.iadd, 1) := by decide +kernel
theorem dL_law_780 : decode mL_law.2.1 780 = .ok (.iaload, 1) := by decide +kernel
theorem dL_law_781 : decode mL_law.2.1 781 = .ok (.aload_n 0, 1) := by decide +kernel
theorem dL_law_782 : decode mL_law.2.1 782 = .ok (.iload 4, 2) := by decide +kernel
theorem dL_law_784 : decode mL_law.2.1 784 = .ok (.iconst 2, 1) := by decide +kernel
theorem dL_law_785 : decode mL_law.2.1 785 = .ok (.iadd, 1) := by decide +kernel
theorem dL_law_786 : decode mL_law.2.1 786 = .ok (.iaload, 1) := by decide +kernel
theorem dL_law_787 : decode mL_law.2.1 787 = .ok (.invokevirtual 103, 3) := by decide +kernel
theorem dL_law_790 : decode mL_law.2.1 790 = .ok (.istore 6, 2) := by decide +kernel
theorem dL_law_792 : decode mL_law.2.1 792 = .ok (.aload_n 2, 1) := by decide +kernel
theorem dL_law_793 : decode mL_law.2.1 793 = .ok (.invokevirtual 63, 3) := by decide +kernel
theorem dL_law_796 : decode mL_law.2.1 796 = .ok (.iload 5, 2) := by decide +kernel
theorem dL_law_798 : decode mL_law.2.1 798 = .ok (.if_icmp .eq 5, 3) := by decide +kernel
theorem dL_law_801 : decode mL_law.2.1 801 = .ok (.iconst 0, 1) := by decide +kernel
theorem dL_law_802 : decode mL_law.2.1 802 = .ok (.ireturn, 1) := by decide +kernel
theorem dL_law_803 : decode mL_law.2.1 803 = .ok (.iload 5, 2) := by decide +kernel
theorem dL_law_805 : decode mL_law.2.1 805 = .ok (.ifCond .ne 15, 3) := by decide +kernel
theorem dL_law_808 : decode mL_law.2.1 808 = .ok (.aload_n 3, 1) := by decide +kernel
theorem dL_law_809 : decode mL_law.2.1 809 = .ok (.iconst 0, 1) := by decide +kernel
theorem dL_law_810 : decode mL_law.2.1 810 = .ok (.laload, 1) := by decide +kernel
theorem dL_law_811 : decode mL_law.2.1 811 = .ok (.iload 6, 2) := by decide +kernel
theorem dL_law_813 : decode mL_law.2.1 813 = .ok (.i2l, 1) := by decide +kernel
theorem dL_law_814 : decode mL_law.2.1 814 = .ok (.lcmp, 1) := by decide +kernel
theorem dL_law_815 : decode mL_law.2.1 815 = .ok (.ifCond .eq 5, 3) := by decide +kernel
theorem dL_law_818 : decode mL_law.2.1 818 = .ok (.iconst 0, 1) := by decide +kernel
theorem dL_law_819 : decode mL_law.2.1 819 = .ok (.ireturn, 1) := by decide +kernel
theorem dL_law_820 : decode mL_law.2.1 820 = .ok (.goto 109, 3) := by decide +kernel
theorem dL_law_823 : decode mL_law.2.1 823 = .ok (.aload_n 1, 1) := by decide +kernel
theorem dL_law_824 : decode mL_law.2.1 824 = .ok (.aload_n 0, 1) := by decide +kernel
theorem dL_law_825 : decode mL_law.2.1 825 = .ok (.iload 4, 2) := by decide +kernel
theorem dL_law_827 : decode mL_law.2.1 827 = .ok (.iconst 1, 1) := by decide +kernel
theorem dL_law_828 : decode mL_law.2.1 828 = .ok (.iadd, 1) := by decide +kernel
theorem dL_law_829 : decode mL_law.2.1 829 = .ok (.iaload, 1) := by decide +kernel
theorem dL_law_830 : decode mL_law.2.1 830 = .ok (.aload_n 3, 1) := by decide +kernel
theorem dL_law_831 : decode mL_law.2.1 831 = .ok (.invokestatic 104, 3) := by decide +kernel
theorem dL_law_834 : decode mL_law.2.1 834 = .ok (.istore 5, 2) := by decide +kernel
theorem dL_law_836 : decode mL_law.2.1 836 = .ok (.aload_n 2, 1) := by decide +kernel
theorem dL_law_837 : decode mL_law.2.1 837 = .ok (.aload_n 0, 1) := by decide +kernel
theorem dL_law_838 : decode mL_law.2.1 838 = .ok (.iload 4, 2) := by decide +kernel
theorem dL_law_840 : decode mL_law.2.1 840 = .ok (.iconst 1, 1) := by decide +kernel
theorem dL_law_841 : decode mL_law.2.1 841 = .ok (.iadd, 1) := by decide +kernel
theorem dL_law_842 : decode mL_law.2.1 842 = .ok (.iaload, 1) := by decide +kernel
theorem dL_law_843 : decode mL_law.2.1 843 = .ok (.invokevirtual 106, 3) := by decide +kernel
theorem dL_law_846 : decode mL_law.2.1 846 = .ok (.istore 6, 2) := by decide +kernel
theorem dL_law_848 : decode mL_law.2.1 848 = .ok (.aload_n 2, 1) := by decide +kernel
theorem dL_law_849 : decode mL_law.2.1 849 = .ok (.invokevirtual 63, 3) := by decide +kernel
theorem dL_law_852 : decode mL_law.2.1 852 = .ok (.iload 5, 2) := by decide +kernel
theorem dL_law_854 : decode mL_law.2.1 854 = .ok (.if_icmp .eq 5, 3) := by decide +kernel
theorem dL_law_857 : decode mL_law.2.1 857 = .ok (.iconst 0, 1) := by decide +kernel
theorem dL_law_858 : decode mL_law.2.1 858 = .ok (.ireturn, 1) := by decide +kernel
theorem dL_law_859 : decode mL_law.2.1 859 = .ok (.iload 5, 2) := by decide +kernel
theorem dL_law_861 : decode mL_law.2.1 861 = .ok (.ifCond .ne 15, 3) := by decide +kernel
theorem dL_law_864 : decode mL_law.2.1 864 = .ok (.aload_n 3, 1) := by decide +kernel
theorem dL_law_865 : decode mL_law.2.1 865 = .ok (.iconst 0, 1) := by decide +kernel
theorem dL_law_866 : decode mL_law.2.1 866 = .ok (.laload, 1) := by decide +kernel
theorem dL_law_867 : decode mL_law.2.1 867 = .ok (.iload 6, 2) := by decide +kernel
theorem dL_law_869 : decode mL_law.2.1 869 = .ok (.i2l, 1) := by decide +kernel
theorem dL_law_870 : decode mL_law.2.1 870 = .ok (.lcmp, 1) := by decide +kernel
theorem dL_law_871 : decode mL_law.2.1 871 = .ok (.ifCond .eq 5, 3) := by decide +kernel
theorem dL_law_874 : decode mL_law.2.1 874 = .ok (.iconst 0, 1) := by decide +kernel
theorem dL_law_875 : decode mL_law.2.1 875 = .ok (.ireturn, 1) := by decide +kernel
theorem dL_law_876 : decode mL_law.2.1 876 = .ok (.goto 53, 3) := by decide +kernel
theorem dL_law_879 : decode mL_law.2.1 879 = .ok (.aload_n 1, 1) := by decide +kernel
theorem dL_law_880 : decode mL_law.2.1 880 = .ok (.aload_n 0, 1) := by decide +kernel
theorem dL_law_881 : decode mL_law.2.1 881 = .ok (.iload 4, 2) := by decide +kernel
theorem dL_law_883 : decode mL_law.2.1 883 = .ok (.iconst 1, 1) := by decide +kernel
theorem dL_law_884 : decode mL_law.2.1 884 = .ok (.iadd, 1) := by decide +kernel
theorem dL_law_885 : decode mL_law.2.1 885 = .ok (.iaload, 1) := by decide +kernel
theorem dL_law_886 : decode mL_law.2.1 886 = .ok (.invokevirtual 107, 3) := by decide +kernel
theorem dL_law_889 : decode mL_law.2.1 889 = .ok (.aload_n 2, 1) := by decide +kernel
theorem dL_law_890 : decode mL_law.2.1 890 = .ok (.aload_n 0, 1) := by decide +kernel
theorem dL_law_891 : decode mL_law.2.1 891 = .ok (.iload 4, 2) := by decide +kernel
theorem dL_law_893 : decode mL_law.2.1 893 = .ok (.iconst 1, 1) := by decide +kernel
theorem dL_law_894 : decode mL_law.2.1 894 = .ok (.iadd, 1) := by decide +kernel
theorem dL_law_895 : decode mL_law.2.1 895 = .ok (.iaload, 1) := by decide +kernel
theorem dL_law_896 : decode mL_law.2.1 896 = .ok (.invokevirtual 110, 3) := by decide +kernel
theorem dL_law_899 : decode mL_law.2.1 899 = .ok (.if_icmp .eq 30, 3) := by decide +kernel
theorem dL_law_902 : decode mL_law.2.1 902 = .ok (.iconst 0, 1) := by decide +kernel
theorem dL_law_903 : decode mL_law.2.1 903 = .ok (.ireturn, 1) := by decide +kernel
theorem dL_law_904 : decode mL_law.2.1 904 = .ok (.aload_n 1, 1) := by decide +kernel
theorem dL_law_905 : decode mL_law.2.1 905 = .ok (.aload_n 0, 1) := by decide +kernel
theorem dL_law_906 : decode mL_law.2.1 906 = .ok (.iload 4, 2) := by decide +kernel
theorem dL_law_908 : decode mL_law.2.1 908 = .ok (.iconst 1, 1) := by decide +kernel
theorem dL_law_909 : decode mL_law.2.1 909 = .ok (.iadd, 1) := by decide +kernel
theorem dL_law_910 : decode mL_law.2.1 910 = .ok (.iaload, 1) := by decide +kernel
theorem dL_law_911 : decode mL_law.2.1 911 = .ok (.invokevirtual 111, 3) := by decide +kernel
theorem dL_law_914 : decode mL_law.2.1 914 = .ok (.aload_n 2, 1) := by decide +kernel
theorem dL_law_915 : decode mL_law.2.1 915 = .ok (.aload_n 0, 1) := by decide +kernel
theorem dL_law_916 : decode mL_law.2.1 916 = .ok (.iload 4, 2) := by decide +kernel
theorem dL_law_918 : decode mL_law.2.1 918 = .ok (.iconst 1, 1) := by decide +kernel
theorem dL_law_919 : decode mL_law.2.1 919 = .ok (.iadd, 1) := by decide +kernel
theorem dL_law_920 : decode mL_law.2.1 920 = .ok (.iaload, 1) := by decide +kernel
theorem dL_law_921 : decode mL_law.2.1 921 = .ok (.invokevirtual 114, 3) := by decide +kernel
theorem dL_law_924 : decode mL_law.2.1 924 = .ok (.if_icmp .eq 5, 3) := by decide +kernel
theorem dL_law_927 : decode mL_law.2.1 927 = .ok (.iconst 0, 1) := by decide +kernel
theorem dL_law_928 : decode mL_law.2.1 928 = .ok (.ireturn, 1) := by decide +kernel
theorem dL_law_929 : decode mL_law.2.1 929 = .ok (.iinc 4 4, 3) := by decide +kernel
theorem dL_law_932 : decode mL_law.2.1 932 = .ok (.goto (-909), 3) := by decide +kernel
theorem dL_law_935 : decode mL_law.2.1 935 = .ok (.iconst 1, 1) := by decide +kernel
theorem dL_law_936 : decode mL_law.2.1 936 = .ok (.ireturn, 1) := by decide +kernel
