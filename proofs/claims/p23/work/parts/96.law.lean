/-! ===== the law: a call on both sides ===== -/
theorem d902_0 : decode (zB 902) 0 = .ok (.new 7, 3) := by decide +kernel
theorem d902_3 : decode (zB 902) 3 = .ok (.dup, 1) := by decide +kernel
theorem d902_4 : decode (zB 902) 4 = .ok (.invokespecial 9, 3) := by decide +kernel
theorem d902_7 : decode (zB 902) 7 = .ok (.astore_n 1, 1) := by decide +kernel
theorem d902_8 : decode (zB 902) 8 = .ok (.new 10, 3) := by decide +kernel
theorem d902_11 : decode (zB 902) 11 = .ok (.dup, 1) := by decide +kernel
theorem d902_12 : decode (zB 902) 12 = .ok (.invokespecial 12, 3) := by decide +kernel
theorem d902_15 : decode (zB 902) 15 = .ok (.astore_n 2, 1) := by decide +kernel
theorem d902_16 : decode (zB 902) 16 = .ok (.iconst 0, 1) := by decide +kernel
theorem d902_17 : decode (zB 902) 17 = .ok (.istore_n 3, 1) := by decide +kernel
theorem d902_18 : decode (zB 902) 18 = .ok (.iload_n 3, 1) := by decide +kernel
theorem d902_19 : decode (zB 902) 19 = .ok (.aload_n 0, 1) := by decide +kernel
theorem d902_20 : decode (zB 902) 20 = .ok (.arraylength, 1) := by decide +kernel
theorem d902_21 : decode (zB 902) 21 = .ok (.bipush 7, 2) := by decide +kernel
theorem d902_23 : decode (zB 902) 23 = .ok (.isub, 1) := by decide +kernel
theorem d902_24 : decode (zB 902) 24 = .ok (.if_icmp .gt 1067, 3) := by decide +kernel
theorem d902_27 : decode (zB 902) 27 = .ok (.aload_n 0, 1) := by decide +kernel
theorem d902_28 : decode (zB 902) 28 = .ok (.iload_n 3, 1) := by decide +kernel
theorem d902_29 : decode (zB 902) 29 = .ok (.iaload, 1) := by decide +kernel
theorem d902_30 : decode (zB 902) 30 = .ok (.bipush 31, 2) := by decide +kernel
theorem d902_32 : decode (zB 902) 32 = .ok (.iand, 1) := by decide +kernel
theorem d902_33 : decode (zB 902) 33 = .ok (.tableswitch 1052 0 24 #[115, 190, 203, 236, 259, 302, 345, 378, 431, 444, 477, 510, 543, 576, 609, 632, 665, 698, 731, 784, 837, 880, 903, 946, 989], 115) := by decide +kernel
theorem d902_148 : decode (zB 902) 148 = .ok (.aload_n 1, 1) := by decide +kernel
theorem d902_149 : decode (zB 902) 149 = .ok (.aload_n 0, 1) := by decide +kernel
theorem d902_150 : decode (zB 902) 150 = .ok (.iload_n 3, 1) := by decide +kernel
theorem d902_151 : decode (zB 902) 151 = .ok (.iconst 1, 1) := by decide +kernel
theorem d902_152 : decode (zB 902) 152 = .ok (.iadd, 1) := by decide +kernel
theorem d902_153 : decode (zB 902) 153 = .ok (.iaload, 1) := by decide +kernel
theorem d902_154 : decode (zB 902) 154 = .ok (.aload_n 0, 1) := by decide +kernel
theorem d902_155 : decode (zB 902) 155 = .ok (.iload_n 3, 1) := by decide +kernel
theorem d902_156 : decode (zB 902) 156 = .ok (.iconst 2, 1) := by decide +kernel
theorem d902_157 : decode (zB 902) 157 = .ok (.iadd, 1) := by decide +kernel
theorem d902_158 : decode (zB 902) 158 = .ok (.iaload, 1) := by decide +kernel
theorem d902_159 : decode (zB 902) 159 = .ok (.aload_n 0, 1) := by decide +kernel
theorem d902_160 : decode (zB 902) 160 = .ok (.iload_n 3, 1) := by decide +kernel
theorem d902_161 : decode (zB 902) 161 = .ok (.iconst 3, 1) := by decide +kernel
theorem d902_162 : decode (zB 902) 162 = .ok (.iadd, 1) := by decide +kernel
theorem d902_163 : decode (zB 902) 163 = .ok (.iaload, 1) := by decide +kernel
theorem d902_164 : decode (zB 902) 164 = .ok (.aload_n 0, 1) := by decide +kernel
theorem d902_165 : decode (zB 902) 165 = .ok (.iload_n 3, 1) := by decide +kernel
theorem d902_166 : decode (zB 902) 166 = .ok (.iconst 4, 1) := by decide +kernel
theorem d902_167 : decode (zB 902) 167 = .ok (.iadd, 1) := by decide +kernel
theorem d902_168 : decode (zB 902) 168 = .ok (.iaload, 1) := by decide +kernel
theorem d902_169 : decode (zB 902) 169 = .ok (.aload_n 0, 1) := by decide +kernel
theorem d902_170 : decode (zB 902) 170 = .ok (.iload_n 3, 1) := by decide +kernel
theorem d902_171 : decode (zB 902) 171 = .ok (.iconst 5, 1) := by decide +kernel
theorem d902_172 : decode (zB 902) 172 = .ok (.iadd, 1) := by decide +kernel
theorem d902_173 : decode (zB 902) 173 = .ok (.iaload, 1) := by decide +kernel
theorem d902_174 : decode (zB 902) 174 = .ok (.aload_n 0, 1) := by decide +kernel
theorem d902_175 : decode (zB 902) 175 = .ok (.iload_n 3, 1) := by decide +kernel
theorem d902_176 : decode (zB 902) 176 = .ok (.bipush 6, 2) := by decide +kernel
theorem d902_178 : decode (zB 902) 178 = .ok (.iadd, 1) := by decide +kernel
theorem d902_179 : decode (zB 902) 179 = .ok (.iaload, 1) := by decide +kernel
theorem d902_180 : decode (zB 902) 180 = .ok (.invokevirtual 13, 3) := by decide +kernel
theorem d902_183 : decode (zB 902) 183 = .ok (.pop, 1) := by decide +kernel
theorem d902_184 : decode (zB 902) 184 = .ok (.aload_n 2, 1) := by decide +kernel
theorem d902_185 : decode (zB 902) 185 = .ok (.aload_n 0, 1) := by decide +kernel
theorem d902_186 : decode (zB 902) 186 = .ok (.iload_n 3, 1) := by decide +kernel
theorem d902_187 : decode (zB 902) 187 = .ok (.iconst 1, 1) := by decide +kernel
theorem d902_188 : decode (zB 902) 188 = .ok (.iadd, 1) := by decide +kernel
theorem d902_189 : decode (zB 902) 189 = .ok (.iaload, 1) := by decide +kernel
theorem d902_190 : decode (zB 902) 190 = .ok (.aload_n 0, 1) := by decide +kernel
theorem d902_191 : decode (zB 902) 191 = .ok (.iload_n 3, 1) := by decide +kernel
theorem d902_192 : decode (zB 902) 192 = .ok (.iconst 2, 1) := by decide +kernel
theorem d902_193 : decode (zB 902) 193 = .ok (.iadd, 1) := by decide +kernel
theorem d902_194 : decode (zB 902) 194 = .ok (.iaload, 1) := by decide +kernel
theorem d902_195 : decode (zB 902) 195 = .ok (.aload_n 0, 1) := by decide +kernel
theorem d902_196 : decode (zB 902) 196 = .ok (.iload_n 3, 1) := by decide +kernel
theorem d902_197 : decode (zB 902) 197 = .ok (.iconst 3, 1) := by decide +kernel
theorem d902_198 : decode (zB 902) 198 = .ok (.iadd, 1) := by decide +kernel
theorem d902_199 : decode (zB 902) 199 = .ok (.iaload, 1) := by decide +kernel
theorem d902_200 : decode (zB 902) 200 = .ok (.aload_n 0, 1) := by decide +kernel
theorem d902_201 : decode (zB 902) 201 = .ok (.iload_n 3, 1) := by decide +kernel
theorem d902_202 : decode (zB 902) 202 = .ok (.iconst 4, 1) := by decide +kernel
theorem d902_203 : decode (zB 902) 203 = .ok (.iadd, 1) := by decide +kernel
theorem d902_204 : decode (zB 902) 204 = .ok (.iaload, 1) := by decide +kernel
theorem d902_205 : decode (zB 902) 205 = .ok (.aload_n 0, 1) := by decide +kernel
theorem d902_206 : decode (zB 902) 206 = .ok (.iload_n 3, 1) := by decide +kernel
theorem d902_207 : decode (zB 902) 207 = .ok (.iconst 5, 1) := by decide +kernel
theorem d902_208 : decode (zB 902) 208 = .ok (.iadd, 1) := by decide +kernel
theorem d902_209 : decode (zB 902) 209 = .ok (.iaload, 1) := by decide +kernel
theorem d902_210 : decode (zB 902) 210 = .ok (.aload_n 0, 1) := by decide +kernel
theorem d902_211 : decode (zB 902) 211 = .ok (.iload_n 3, 1) := by decide +kernel
theorem d902_212 : decode (zB 902) 212 = .ok (.bipush 6, 2) := by decide +kernel
theorem d902_214 : decode (zB 902) 214 = .ok (.iadd, 1) := by decide +kernel
theorem d902_215 : decode (zB 902) 215 = .ok (.iaload, 1) := by decide +kernel
theorem d902_216 : decode (zB 902) 216 = .ok (.invokevirtual 17, 3) := by decide +kernel
theorem d902_219 : decode (zB 902) 219 = .ok (.pop, 1) := by decide +kernel
theorem d902_220 : decode (zB 902) 220 = .ok (.goto 865, 3) := by decide +kernel
theorem d902_223 : decode (zB 902) 223 = .ok (.aload_n 1, 1) := by decide +kernel
theorem d902_224 : decode (zB 902) 224 = .ok (.invokevirtual 18, 3) := by decide +kernel
theorem d902_227 : decode (zB 902) 227 = .ok (.pop, 1) := by decide +kernel
theorem d902_228 : decode (zB 902) 228 = .ok (.aload_n 2, 1) := by decide +kernel
theorem d902_229 : decode (zB 902) 229 = .ok (.invokevirtual 22, 3) := by decide +kernel
theorem d902_232 : decode (zB 902) 232 = .ok (.pop, 1) := by decide +kernel
theorem d902_233 : decode (zB 902) 233 = .ok (.goto 852, 3) := by decide +kernel
theorem d902_236 : decode (zB 902) 236 = .ok (.aload_n 1, 1) := by decide +kernel
theorem d902_237 : decode (zB 902) 237 = .ok (.aload_n 0, 1) := by decide +kernel
theorem d902_238 : decode (zB 902) 238 = .ok (.iload_n 3, 1) := by decide +kernel
theorem d902_239 : decode (zB 902) 239 = .ok (.iconst 1, 1) := by decide +kernel
theorem d902_240 : decode (zB 902) 240 = .ok (.iadd, 1) := by decide +kernel
theorem d902_241 : decode (zB 902) 241 = .ok (.iaload, 1) := by decide +kernel
theorem d902_242 : decode (zB 902) 242 = .ok (.aload_n 0, 1) := by decide +kernel
theorem d902_243 : decode (zB 902) 243 = .ok (.iload_n 3, 1) := by decide +kernel
theorem d902_244 : decode (zB 902) 244 = .ok (.iconst 2, 1) := by decide +kernel
theorem d902_245 : decode (zB 902) 245 = .ok (.iadd, 1) := by decide +kernel
theorem d902_246 : decode (zB 902) 246 = .ok (.iaload, 1) := by decide +kernel
theorem d902_247 : decode (zB 902) 247 = .ok (.invokevirtual 23, 3) := by decide +kernel
theorem d902_250 : decode (zB 902) 250 = .ok (.pop, 1) := by decide +kernel
theorem d902_251 : decode (zB 902) 251 = .ok (.aload_n 2, 1) := by decide +kernel
theorem d902_252 : decode (zB 902) 252 = .ok (.aload_n 0, 1) := by decide +kernel
theorem d902_253 : decode (zB 902) 253 = .ok (.iload_n 3, 1) := by decide +kernel
theorem d902_254 : decode (zB 902) 254 = .ok (.iconst 1, 1) := by decide +kernel
theorem d902_255 : decode (zB 902) 255 = .ok (.iadd, 1) := by decide +kernel
theorem d902_256 : decode (zB 902) 256 = .ok (.iaload, 1) := by decide +kernel
theorem d902_257 : decode (zB 902) 257 = .ok (.aload_n 0, 1) := by decide +kernel
theorem d902_258 : decode (zB 902) 258 = .ok (.iload_n 3, 1) := by decide +kernel
theorem d902_259 : decode (zB 902) 259 = .ok (.iconst 2, 1) := by decide +kernel
theorem d902_260 : decode (zB 902) 260 = .ok (.iadd, 1) := by decide +kernel
theorem d902_261 : decode (zB 902) 261 = .ok (.iaload, 1) := by decide +kernel
theorem d902_262 : decode (zB 902) 262 = .ok (.invokevirtual 27, 3) := by decide +kernel
theorem d902_265 : decode (zB 902) 265 = .ok (.pop, 1) := by decide +kernel
theorem d902_266 : decode (zB 902) 266 = .ok (.goto 819, 3) := by decide +kernel
theorem d902_269 : decode (zB 902) 269 = .ok (.aload_n 1, 1) := by decide +kernel
theorem d902_270 : decode (zB 902) 270 = .ok (.aload_n 0, 1) := by decide +kernel
theorem d902_271 : decode (zB 902) 271 = .ok (.iload_n 3, 1) := by decide +kernel
theorem d902_272 : decode (zB 902) 272 = .ok (.iconst 1, 1) := by decide +kernel
theorem d902_273 : decode (zB 902) 273 = .ok (.iadd, 1) := by decide +kernel
theorem d902_274 : decode (zB 902) 274 = .ok (.iaload, 1) := by decide +kernel
theorem d902_275 : decode (zB 902) 275 = .ok (.invokevirtual 28, 3) := by decide +kernel
theorem d902_278 : decode (zB 902) 278 = .ok (.pop2, 1) := by decide +kernel
theorem d902_279 : decode (zB 902) 279 = .ok (.aload_n 2, 1) := by decide +kernel
theorem d902_280 : decode (zB 902) 280 = .ok (.aload_n 0, 1) := by decide +kernel
theorem d902_281 : decode (zB 902) 281 = .ok (.iload_n 3, 1) := by decide +kernel
theorem d902_282 : decode (zB 902) 282 = .ok (.iconst 1, 1) := by decide +kernel
theorem d902_283 : decode (zB 902) 283 = .ok (.iadd, 1) := by decide +kernel
theorem d902_284 : decode (zB 902) 284 = .ok (.iaload, 1) := by decide +kernel
theorem d902_285 : decode (zB 902) 285 = .ok (.invokevirtual 32, 3) := by decide +kernel
theorem d902_288 : decode (zB 902) 288 = .ok (.pop2, 1) := by decide +kernel
theorem d902_289 : decode (zB 902) 289 = .ok (.goto 796, 3) := by decide +kernel
theorem d902_292 : decode (zB 902) 292 = .ok (.aload_n 1, 1) := by decide +kernel
theorem d902_293 : decode (zB 902) 293 = .ok (.aload_n 0, 1) := by decide +kernel
theorem d902_294 : decode (zB 902) 294 = .ok (.iload_n 3, 1) := by decide +kernel
theorem d902_295 : decode (zB 902) 295 = .ok (.iconst 1, 1) := by decide +kernel
theorem d902_296 : decode (zB 902) 296 = .ok (.iadd, 1) := by decide +kernel
theorem d902_297 : decode (zB 902) 297 = .ok (.iaload, 1) := by decide +kernel
theorem d902_298 : decode (zB 902) 298 = .ok (.aload_n 0, 1) := by decide +kernel
theorem d902_299 : decode (zB 902) 299 = .ok (.iload_n 3, 1) := by decide +kernel
theorem d902_300 : decode (zB 902) 300 = .ok (.iconst 2, 1) := by decide +kernel
theorem d902_301 : decode (zB 902) 301 = .ok (.iadd, 1) := by decide +kernel
theorem d902_302 : decode (zB 902) 302 = .ok (.iaload, 1) := by decide +kernel
theorem d902_303 : decode (zB 902) 303 = .ok (.aload_n 0, 1) := by decide +kernel
theorem d902_304 : decode (zB 902) 304 = .ok (.iload_n 3, 1) := by decide +kernel
theorem d902_305 : decode (zB 902) 305 = .ok (.iconst 3, 1) := by decide +kernel
theorem d902_306 : decode (zB 902) 306 = .ok (.iadd, 1) := by decide +kernel
theorem d902_307 : decode (zB 902) 307 = .ok (.iaload, 1) := by decide +kernel
theorem d902_308 : decode (zB 902) 308 = .ok (.invokevirtual 33, 3) := by decide +kernel
theorem d902_311 : decode (zB 902) 311 = .ok (.pop, 1) := by decide +kernel
theorem d902_312 : decode (zB 902) 312 = .ok (.aload_n 2, 1) := by decide +kernel
theorem d902_313 : decode (zB 902) 313 = .ok (.aload_n 0, 1) := by decide +kernel
theorem d902_314 : decode (zB 902) 314 = .ok (.iload_n 3, 1) := by decide +kernel
theorem d902_315 : decode (zB 902) 315 = .ok (.iconst 1, 1) := by decide +kernel
theorem d902_316 : decode (zB 902) 316 = .ok (.iadd, 1) := by decide +kernel
theorem d902_317 : decode (zB 902) 317 = .ok (.iaload, 1) := by decide +kernel
theorem d902_318 : decode (zB 902) 318 = .ok (.aload_n 0, 1) := by decide +kernel
theorem d902_319 : decode (zB 902) 319 = .ok (.iload_n 3, 1) := by decide +kernel
theorem d902_320 : decode (zB 902) 320 = .ok (.iconst 2, 1) := by decide +kernel
theorem d902_321 : decode (zB 902) 321 = .ok (.iadd, 1) := by decide +kernel
theorem d902_322 : decode (zB 902) 322 = .ok (.iaload, 1) := by decide +kernel
theorem d902_323 : decode (zB 902) 323 = .ok (.aload_n 0, 1) := by decide +kernel
theorem d902_324 : decode (zB 902) 324 = .ok (.iload_n 3, 1) := by decide +kernel
theorem d902_325 : decode (zB 902) 325 = .ok (.iconst 3, 1) := by decide +kernel
theorem d902_326 : decode (zB 902) 326 = .ok (.iadd, 1) := by decide +kernel
theorem d902_327 : decode (zB 902) 327 = .ok (.iaload, 1) := by decide +kernel
theorem d902_328 : decode (zB 902) 328 = .ok (.invokevirtual 37, 3) := by decide +kernel
theorem d902_331 : decode (zB 902) 331 = .ok (.pop, 1) := by decide +kernel
theorem d902_332 : decode (zB 902) 332 = .ok (.goto 753, 3) := by decide +kernel
theorem d902_335 : decode (zB 902) 335 = .ok (.aload_n 1, 1) := by decide +kernel
theorem d902_336 : decode (zB 902) 336 = .ok (.aload_n 0, 1) := by decide +kernel
theorem d902_337 : decode (zB 902) 337 = .ok (.iload_n 3, 1) := by decide +kernel
theorem d902_338 : decode (zB 902) 338 = .ok (.iconst 1, 1) := by decide +kernel
theorem d902_339 : decode (zB 902) 339 = .ok (.iadd, 1) := by decide +kernel
theorem d902_340 : decode (zB 902) 340 = .ok (.iaload, 1) := by decide +kernel
theorem d902_341 : decode (zB 902) 341 = .ok (.aload_n 0, 1) := by decide +kernel
theorem d902_342 : decode (zB 902) 342 = .ok (.iload_n 3, 1) := by decide +kernel
theorem d902_343 : decode (zB 902) 343 = .ok (.iconst 2, 1) := by decide +kernel
theorem d902_344 : decode (zB 902) 344 = .ok (.iadd, 1) := by decide +kernel
theorem d902_345 : decode (zB 902) 345 = .ok (.iaload, 1) := by decide +kernel
theorem d902_346 : decode (zB 902) 346 = .ok (.aload_n 0, 1) := by decide +kernel
theorem d902_347 : decode (zB 902) 347 = .ok (.iload_n 3, 1) := by decide +kernel
theorem d902_348 : decode (zB 902) 348 = .ok (.iconst 3, 1) := by decide +kernel
theorem d902_349 : decode (zB 902) 349 = .ok (.iadd, 1) := by decide +kernel
theorem d902_350 : decode (zB 902) 350 = .ok (.iaload, 1) := by decide +kernel
theorem d902_351 : decode (zB 902) 351 = .ok (.invokevirtual 38, 3) := by decide +kernel
theorem d902_354 : decode (zB 902) 354 = .ok (.pop, 1) := by decide +kernel
theorem d902_355 : decode (zB 902) 355 = .ok (.aload_n 2, 1) := by decide +kernel
theorem d902_356 : decode (zB 902) 356 = .ok (.aload_n 0, 1) := by decide +kernel
theorem d902_357 : decode (zB 902) 357 = .ok (.iload_n 3, 1) := by decide +kernel
theorem d902_358 : decode (zB 902) 358 = .ok (.iconst 1, 1) := by decide +kernel
theorem d902_359 : decode (zB 902) 359 = .ok (.iadd, 1) := by decide +kernel
theorem d902_360 : decode (zB 902) 360 = .ok (.iaload, 1) := by decide +kernel
theorem d902_361 : decode (zB 902) 361 = .ok (.aload_n 0, 1) := by decide +kernel
theorem d902_362 : decode (zB 902) 362 = .ok (.iload_n 3, 1) := by decide +kernel
theorem d902_363 : decode (zB 902) 363 = .ok (.iconst 2, 1) := by decide +kernel
theorem d902_364 : decode (zB 902) 364 = .ok (.iadd, 1) := by decide +kernel
theorem d902_365 : decode (zB 902) 365 = .ok (.iaload, 1) := by decide +kernel
theorem d902_366 : decode (zB 902) 366 = .ok (.aload_n 0, 1) := by decide +kernel
theorem d902_367 : decode (zB 902) 367 = .ok (.iload_n 3, 1) := by decide +kernel
theorem d902_368 : decode (zB 902) 368 = .ok (.iconst 3, 1) := by decide +kernel
theorem d902_369 : decode (zB 902) 369 = .ok (.iadd, 1) := by decide +kernel
theorem d902_370 : decode (zB 902) 370 = .ok (.iaload, 1) := by decide +kernel
theorem d902_371 : decode (zB 902) 371 = .ok (.invokevirtual 41, 3) := by decide +kernel
theorem d902_374 : decode (zB 902) 374 = .ok (.pop, 1) := by decide +kernel
theorem d902_375 : decode (zB 902) 375 = .ok (.goto 710, 3) := by decide +kernel
theorem d902_378 : decode (zB 902) 378 = .ok (.aload_n 1, 1) := by decide +kernel
theorem d902_379 : decode (zB 902) 379 = .ok (.aload_n 0, 1) := by decide +kernel
theorem d902_380 : decode (zB 902) 380 = .ok (.iload_n 3, 1) := by decide +kernel
theorem d902_381 : decode (zB 902) 381 = .ok (.iconst 1, 1) := by decide +kernel
theorem d902_382 : decode (zB 902) 382 = .ok (.iadd, 1) := by decide +kernel
theorem d902_383 : decode (zB 902) 383 = .ok (.iaload, 1) := by decide +kernel
theorem d902_384 : decode (zB 902) 384 = .ok (.aload_n 0, 1) := by decide +kernel
theorem d902_385 : decode (zB 902) 385 = .ok (.iload_n 3, 1) := by decide +kernel
theorem d902_386 : decode (zB 902) 386 = .ok (.iconst 2, 1) := by decide +kernel
theorem d902_387 : decode (zB 902) 387 = .ok (.iadd, 1) := by decide +kernel
theorem d902_388 : decode (zB 902) 388 = .ok (.iaload, 1) := by decide +kernel
theorem d902_389 : decode (zB 902) 389 = .ok (.invokevirtual 42, 3) := by decide +kernel
theorem d902_392 : decode (zB 902) 392 = .ok (.pop, 1) := by decide +kernel
theorem d902_393 : decode (zB 902) 393 = .ok (.aload_n 2, 1) := by decide +kernel
theorem d902_394 : decode (zB 902) 394 = .ok (.aload_n 0, 1) := by decide +kernel
theorem d902_395 : decode (zB 902) 395 = .ok (.iload_n 3, 1) := by decide +kernel
theorem d902_396 : decode (zB 902) 396 = .ok (.iconst 1, 1) := by decide +kernel
theorem d902_397 : decode (zB 902) 397 = .ok (.iadd, 1) := by decide +kernel
theorem d902_398 : decode (zB 902) 398 = .ok (.iaload, 1) := by decide +kernel
theorem d902_399 : decode (zB 902) 399 = .ok (.aload_n 0, 1) := by decide +kernel
theorem d902_400 : decode (zB 902) 400 = .ok (.iload_n 3, 1) := by decide +kernel
theorem d902_401 : decode (zB 902) 401 = .ok (.iconst 2, 1) := by decide +kernel
theorem d902_402 : decode (zB 902) 402 = .ok (.iadd, 1) := by decide +kernel
theorem d902_403 : decode (zB 902) 403 = .ok (.iaload, 1) := by decide +kernel
theorem d902_404 : decode (zB 902) 404 = .ok (.invokevirtual 45, 3) := by decide +kernel
theorem d902_407 : decode (zB 902) 407 = .ok (.pop, 1) := by decide +kernel
theorem d902_408 : decode (zB 902) 408 = .ok (.goto 677, 3) := by decide +kernel
theorem d902_411 : decode (zB 902) 411 = .ok (.aload_n 1, 1) := by decide +kernel
theorem d902_412 : decode (zB 902) 412 = .ok (.aload_n 0, 1) := by decide +kernel
theorem d902_413 : decode (zB 902) 413 = .ok (.iload_n 3, 1) := by decide +kernel
theorem d902_414 : decode (zB 902) 414 = .ok (.iconst 1, 1) := by decide +kernel
theorem d902_415 : decode (zB 902) 415 = .ok (.iadd, 1) := by decide +kernel
theorem d902_416 : decode (zB 902) 416 = .ok (.iaload, 1) := by decide +kernel
theorem d902_417 : decode (zB 902) 417 = .ok (.aload_n 0, 1) := by decide +kernel
theorem d902_418 : decode (zB 902) 418 = .ok (.iload_n 3, 1) := by decide +kernel
theorem d902_419 : decode (zB 902) 419 = .ok (.iconst 2, 1) := by decide +kernel
theorem d902_420 : decode (zB 902) 420 = .ok (.iadd, 1) := by decide +kernel
theorem d902_421 : decode (zB 902) 421 = .ok (.iaload, 1) := by decide +kernel
theorem d902_422 : decode (zB 902) 422 = .ok (.aload_n 0, 1) := by decide +kernel
theorem d902_423 : decode (zB 902) 423 = .ok (.iload_n 3, 1) := by decide +kernel
theorem d902_424 : decode (zB 902) 424 = .ok (.iconst 3, 1) := by decide +kernel
theorem d902_425 : decode (zB 902) 425 = .ok (.iadd, 1) := by decide +kernel
theorem d902_426 : decode (zB 902) 426 = .ok (.iaload, 1) := by decide +kernel
theorem d902_427 : decode (zB 902) 427 = .ok (.aload_n 0, 1) := by decide +kernel
theorem d902_428 : decode (zB 902) 428 = .ok (.iload_n 3, 1) := by decide +kernel
theorem d902_429 : decode (zB 902) 429 = .ok (.iconst 4, 1) := by decide +kernel
theorem d902_430 : decode (zB 902) 430 = .ok (.iadd, 1) := by decide +kernel
theorem d902_431 : decode (zB 902) 431 = .ok (.iaload, 1) := by decide +kernel
theorem d902_432 : decode (zB 902) 432 = .ok (.invokevirtual 46, 3) := by decide +kernel
theorem d902_435 : decode (zB 902) 435 = .ok (.pop, 1) := by decide +kernel
theorem d902_436 : decode (zB 902) 436 = .ok (.aload_n 2, 1) := by decide +kernel
theorem d902_437 : decode (zB 902) 437 = .ok (.aload_n 0, 1) := by decide +kernel
theorem d902_438 : decode (zB 902) 438 = .ok (.iload_n 3, 1) := by decide +kernel
theorem d902_439 : decode (zB 902) 439 = .ok (.iconst 1, 1) := by decide +kernel
theorem d902_440 : decode (zB 902) 440 = .ok (.iadd, 1) := by decide +kernel
theorem d902_441 : decode (zB 902) 441 = .ok (.iaload, 1) := by decide +kernel
theorem d902_442 : decode (zB 902) 442 = .ok (.aload_n 0, 1) := by decide +kernel
theorem d902_443 : decode (zB 902) 443 = .ok (.iload_n 3, 1) := by decide +kernel
theorem d902_444 : decode (zB 902) 444 = .ok (.iconst 2, 1) := by decide +kernel
theorem d902_445 : decode (zB 902) 445 = .ok (.iadd, 1) := by decide +kernel
theorem d902_446 : decode (zB 902) 446 = .ok (.iaload, 1) := by decide +kernel
theorem d902_447 : decode (zB 902) 447 = .ok (.aload_n 0, 1) := by decide +kernel
theorem d902_448 : decode (zB 902) 448 = .ok (.iload_n 3, 1) := by decide +kernel
theorem d902_449 : decode (zB 902) 449 = .ok (.iconst 3, 1) := by decide +kernel
theorem d902_450 : decode (zB 902) 450 = .ok (.iadd, 1) := by decide +kernel
theorem d902_451 : decode (zB 902) 451 = .ok (.iaload, 1) := by decide +kernel
theorem d902_452 : decode (zB 902) 452 = .ok (.aload_n 0, 1) := by decide +kernel
theorem d902_453 : decode (zB 902) 453 = .ok (.iload_n 3, 1) := by decide +kernel
theorem d902_454 : decode (zB 902) 454 = .ok (.iconst 4, 1) := by decide +kernel
theorem d902_455 : decode (zB 902) 455 = .ok (.iadd, 1) := by decide +kernel
theorem d902_456 : decode (zB 902) 456 = .ok (.iaload, 1) := by decide +kernel
theorem d902_457 : decode (zB 902) 457 = .ok (.invokevirtual 50, 3) := by decide +kernel
theorem d902_460 : decode (zB 902) 460 = .ok (.pop, 1) := by decide +kernel
theorem d902_461 : decode (zB 902) 461 = .ok (.goto 624, 3) := by decide +kernel
theorem d902_464 : decode (zB 902) 464 = .ok (.aload_n 1, 1) := by decide +kernel
theorem d902_465 : decode (zB 902) 465 = .ok (.invokevirtual 51, 3) := by decide +kernel
theorem d902_468 : decode (zB 902) 468 = .ok (.pop, 1) := by decide +kernel
theorem d902_469 : decode (zB 902) 469 = .ok (.aload_n 2, 1) := by decide +kernel
theorem d902_470 : decode (zB 902) 470 = .ok (.invokevirtual 54, 3) := by decide +kernel
theorem d902_473 : decode (zB 902) 473 = .ok (.pop, 1) := by decide +kernel
theorem d902_474 : decode (zB 902) 474 = .ok (.goto 611, 3) := by decide +kernel
theorem d902_477 : decode (zB 902) 477 = .ok (.aload_n 1, 1) := by decide +kernel
theorem d902_478 : decode (zB 902) 478 = .ok (.aload_n 0, 1) := by decide +kernel
theorem d902_479 : decode (zB 902) 479 = .ok (.iload_n 3, 1) := by decide +kernel
theorem d902_480 : decode (zB 902) 480 = .ok (.iconst 1, 1) := by decide +kernel
theorem d902_481 : decode (zB 902) 481 = .ok (.iadd, 1) := by decide +kernel
theorem d902_482 : decode (zB 902) 482 = .ok (.iaload, 1) := by decide +kernel
theorem d902_483 : decode (zB 902) 483 = .ok (.aload_n 0, 1) := by decide +kernel
theorem d902_484 : decode (zB 902) 484 = .ok (.iload_n 3, 1) := by decide +kernel
theorem d902_485 : decode (zB 902) 485 = .ok (.iconst 2, 1) := by decide +kernel
theorem d902_486 : decode (zB 902) 486 = .ok (.iadd, 1) := by decide +kernel
theorem d902_487 : decode (zB 902) 487 = .ok (.iaload, 1) := by decide +kernel
theorem d902_488 : decode (zB 902) 488 = .ok (.invokevirtual 55, 3) := by decide +kernel
theorem d902_491 : decode (zB 902) 491 = .ok (.pop, 1) := by decide +kernel
theorem d902_492 : decode (zB 902) 492 = .ok (.aload_n 2, 1) := by decide +kernel
theorem d902_493 : decode (zB 902) 493 = .ok (.aload_n 0, 1) := by decide +kernel
theorem d902_494 : decode (zB 902) 494 = .ok (.iload_n 3, 1) := by decide +kernel
theorem d902_495 : decode (zB 902) 495 = .ok (.iconst 1, 1) := by decide +kernel
theorem d902_496 : decode (zB 902) 496 = .ok (.iadd, 1) := by decide +kernel
theorem d902_497 : decode (zB 902) 497 = .ok (.iaload, 1) := by decide +kernel
theorem d902_498 : decode (zB 902) 498 = .ok (.aload_n 0, 1) := by decide +kernel
theorem d902_499 : decode (zB 902) 499 = .ok (.iload_n 3, 1) := by decide +kernel
theorem d902_500 : decode (zB 902) 500 = .ok (.iconst 2, 1) := by decide +kernel
theorem d902_501 : decode (zB 902) 501 = .ok (.iadd, 1) := by decide +kernel
theorem d902_502 : decode (zB 902) 502 = .ok (.iaload, 1) := by decide +kernel
theorem d902_503 : decode (zB 902) 503 = .ok (.invokevirtual 58, 3) := by decide +kernel
theorem d902_506 : decode (zB 902) 506 = .ok (.pop, 1) := by decide +kernel
theorem d902_507 : decode (zB 902) 507 = .ok (.goto 578, 3) := by decide +kernel
theorem d902_510 : decode (zB 902) 510 = .ok (.aload_n 1, 1) := by decide +kernel
theorem d902_511 : decode (zB 902) 511 = .ok (.aload_n 0, 1) := by decide +kernel
theorem d902_512 : decode (zB 902) 512 = .ok (.iload_n 3, 1) := by decide +kernel
theorem d902_513 : decode (zB 902) 513 = .ok (.iconst 1, 1) := by decide +kernel
theorem d902_514 : decode (zB 902) 514 = .ok (.iadd, 1) := by decide +kernel
theorem d902_515 : decode (zB 902) 515 = .ok (.iaload, 1) := by decide +kernel
theorem d902_516 : decode (zB 902) 516 = .ok (.aload_n 0, 1) := by decide +kernel
theorem d902_517 : decode (zB 902) 517 = .ok (.iload_n 3, 1) := by decide +kernel
theorem d902_518 : decode (zB 902) 518 = .ok (.iconst 2, 1) := by decide +kernel
theorem d902_519 : decode (zB 902) 519 = .ok (.iadd, 1) := by decide +kernel
theorem d902_520 : decode (zB 902) 520 = .ok (.iaload, 1) := by decide +kernel
theorem d902_521 : decode (zB 902) 521 = .ok (.invokevirtual 59, 3) := by decide +kernel
theorem d902_524 : decode (zB 902) 524 = .ok (.pop, 1) := by decide +kernel
theorem d902_525 : decode (zB 902) 525 = .ok (.aload_n 2, 1) := by decide +kernel
theorem d902_526 : decode (zB 902) 526 = .ok (.aload_n 0, 1) := by decide +kernel
theorem d902_527 : decode (zB 902) 527 = .ok (.iload_n 3, 1) := by decide +kernel
theorem d902_528 : decode (zB 902) 528 = .ok (.iconst 1, 1) := by decide +kernel
theorem d902_529 : decode (zB 902) 529 = .ok (.iadd, 1) := by decide +kernel
theorem d902_530 : decode (zB 902) 530 = .ok (.iaload, 1) := by decide +kernel
theorem d902_531 : decode (zB 902) 531 = .ok (.aload_n 0, 1) := by decide +kernel
theorem d902_532 : decode (zB 902) 532 = .ok (.iload_n 3, 1) := by decide +kernel
theorem d902_533 : decode (zB 902) 533 = .ok (.iconst 2, 1) := by decide +kernel
theorem d902_534 : decode (zB 902) 534 = .ok (.iadd, 1) := by decide +kernel
theorem d902_535 : decode (zB 902) 535 = .ok (.iaload, 1) := by decide +kernel
theorem d902_536 : decode (zB 902) 536 = .ok (.invokevirtual 62, 3) := by decide +kernel
theorem d902_539 : decode (zB 902) 539 = .ok (.pop, 1) := by decide +kernel
theorem d902_540 : decode (zB 902) 540 = .ok (.goto 545, 3) := by decide +kernel
theorem d902_543 : decode (zB 902) 543 = .ok (.aload_n 1, 1) := by decide +kernel
theorem d902_544 : decode (zB 902) 544 = .ok (.aload_n 0, 1) := by decide +kernel
theorem d902_545 : decode (zB 902) 545 = .ok (.iload_n 3, 1) := by decide +kernel
theorem d902_546 : decode (zB 902) 546 = .ok (.iconst 1, 1) := by decide +kernel
theorem d902_547 : decode (zB 902) 547 = .ok (.iadd, 1) := by decide +kernel
theorem d902_548 : decode (zB 902) 548 = .ok (.iaload, 1) := by decide +kernel
theorem d902_549 : decode (zB 902) 549 = .ok (.aload_n 0, 1) := by decide +kernel
theorem d902_550 : decode (zB 902) 550 = .ok (.iload_n 3, 1) := by decide +kernel
theorem d902_551 : decode (zB 902) 551 = .ok (.iconst 2, 1) := by decide +kernel
theorem d902_552 : decode (zB 902) 552 = .ok (.iadd, 1) := by decide +kernel
theorem d902_553 : decode (zB 902) 553 = .ok (.iaload, 1) := by decide +kernel
theorem d902_554 : decode (zB 902) 554 = .ok (.invokevirtual 63, 3) := by decide +kernel
theorem d902_557 : decode (zB 902) 557 = .ok (.pop, 1) := by decide +kernel
theorem d902_558 : decode (zB 902) 558 = .ok (.aload_n 2, 1) := by decide +kernel
theorem d902_559 : decode (zB 902) 559 = .ok (.aload_n 0, 1) := by decide +kernel
theorem d902_560 : decode (zB 902) 560 = .ok (.iload_n 3, 1) := by decide +kernel
theorem d902_561 : decode (zB 902) 561 = .ok (.iconst 1, 1) := by decide +kernel
theorem d902_562 : decode (zB 902) 562 = .ok (.iadd, 1) := by decide +kernel
theorem d902_563 : decode (zB 902) 563 = .ok (.iaload, 1) := by decide +kernel
theorem d902_564 : decode (zB 902) 564 = .ok (.aload_n 0, 1) := by decide +kernel
theorem d902_565 : decode (zB 902) 565 = .ok (.iload_n 3, 1) := by decide +kernel
theorem d902_566 : decode (zB 902) 566 = .ok (.iconst 2, 1) := by decide +kernel
theorem d902_567 : decode (zB 902) 567 = .ok (.iadd, 1) := by decide +kernel
theorem d902_568 : decode (zB 902) 568 = .ok (.iaload, 1) := by decide +kernel
theorem d902_569 : decode (zB 902) 569 = .ok (.invokevirtual 66, 3) := by decide +kernel
theorem d902_572 : decode (zB 902) 572 = .ok (.pop, 1) := by decide +kernel
theorem d902_573 : decode (zB 902) 573 = .ok (.goto 512, 3) := by decide +kernel
theorem d902_576 : decode (zB 902) 576 = .ok (.aload_n 1, 1) := by decide +kernel
theorem d902_577 : decode (zB 902) 577 = .ok (.aload_n 0, 1) := by decide +kernel
theorem d902_578 : decode (zB 902) 578 = .ok (.iload_n 3, 1) := by decide +kernel
theorem d902_579 : decode (zB 902) 579 = .ok (.iconst 1, 1) := by decide +kernel
theorem d902_580 : decode (zB 902) 580 = .ok (.iadd, 1) := by decide +kernel
theorem d902_581 : decode (zB 902) 581 = .ok (.iaload, 1) := by decide +kernel
theorem d902_582 : decode (zB 902) 582 = .ok (.aload_n 0, 1) := by decide +kernel
theorem d902_583 : decode (zB 902) 583 = .ok (.iload_n 3, 1) := by decide +kernel
theorem d902_584 : decode (zB 902) 584 = .ok (.iconst 2, 1) := by decide +kernel
theorem d902_585 : decode (zB 902) 585 = .ok (.iadd, 1) := by decide +kernel
theorem d902_586 : decode (zB 902) 586 = .ok (.iaload, 1) := by decide +kernel
theorem d902_587 : decode (zB 902) 587 = .ok (.invokevirtual 67, 3) := by decide +kernel
theorem d902_590 : decode (zB 902) 590 = .ok (.pop, 1) := by decide +kernel
theorem d902_591 : decode (zB 902) 591 = .ok (.aload_n 2, 1) := by decide +kernel
theorem d902_592 : decode (zB 902) 592 = .ok (.aload_n 0, 1) := by decide +kernel
theorem d902_593 : decode (zB 902) 593 = .ok (.iload_n 3, 1) := by decide +kernel
theorem d902_594 : decode (zB 902) 594 = .ok (.iconst 1, 1) := by decide +kernel
theorem d902_595 : decode (zB 902) 595 = .ok (.iadd, 1) := by decide +kernel
theorem d902_596 : decode (zB 902) 596 = .ok (.iaload, 1) := by decide +kernel
theorem d902_597 : decode (zB 902) 597 = .ok (.aload_n 0, 1) := by decide +kernel
theorem d902_598 : decode (zB 902) 598 = .ok (.iload_n 3, 1) := by decide +kernel
theorem d902_599 : decode (zB 902) 599 = .ok (.iconst 2, 1) := by decide +kernel
theorem d902_600 : decode (zB 902) 600 = .ok (.iadd, 1) := by decide +kernel
theorem d902_601 : decode (zB 902) 601 = .ok (.iaload, 1) := by decide +kernel
theorem d902_602 : decode (zB 902) 602 = .ok (.invokevirtual 70, 3) := by decide +kernel
theorem d902_605 : decode (zB 902) 605 = .ok (.pop, 1) := by decide +kernel
theorem d902_606 : decode (zB 902) 606 = .ok (.goto 479, 3) := by decide +kernel
theorem d902_609 : decode (zB 902) 609 = .ok (.aload_n 1, 1) := by decide +kernel
theorem d902_610 : decode (zB 902) 610 = .ok (.aload_n 0, 1) := by decide +kernel
theorem d902_611 : decode (zB 902) 611 = .ok (.iload_n 3, 1) := by decide +kernel
theorem d902_612 : decode (zB 902) 612 = .ok (.iconst 1, 1) := by decide +kernel
theorem d902_613 : decode (zB 902) 613 = .ok (.iadd, 1) := by decide +kernel
theorem d902_614 : decode (zB 902) 614 = .ok (.iaload, 1) := by decide +kernel
theorem d902_615 : decode (zB 902) 615 = .ok (.aload_n 0, 1) := by decide +kernel
theorem d902_616 : decode (zB 902) 616 = .ok (.iload_n 3, 1) := by decide +kernel
theorem d902_617 : decode (zB 902) 617 = .ok (.iconst 2, 1) := by decide +kernel
theorem d902_618 : decode (zB 902) 618 = .ok (.iadd, 1) := by decide +kernel
theorem d902_619 : decode (zB 902) 619 = .ok (.iaload, 1) := by decide +kernel
theorem d902_620 : decode (zB 902) 620 = .ok (.invokevirtual 71, 3) := by decide +kernel
theorem d902_623 : decode (zB 902) 623 = .ok (.pop, 1) := by decide +kernel
theorem d902_624 : decode (zB 902) 624 = .ok (.aload_n 2, 1) := by decide +kernel
theorem d902_625 : decode (zB 902) 625 = .ok (.aload_n 0, 1) := by decide +kernel
theorem d902_626 : decode (zB 902) 626 = .ok (.iload_n 3, 1) := by decide +kernel
theorem d902_627 : decode (zB 902) 627 = .ok (.iconst 1, 1) := by decide +kernel
theorem d902_628 : decode (zB 902) 628 = .ok (.iadd, 1) := by decide +kernel
theorem d902_629 : decode (zB 902) 629 = .ok (.iaload, 1) := by decide +kernel
theorem d902_630 : decode (zB 902) 630 = .ok (.aload_n 0, 1) := by decide +kernel
theorem d902_631 : decode (zB 902) 631 = .ok (.iload_n 3, 1) := by decide +kernel
theorem d902_632 : decode (zB 902) 632 = .ok (.iconst 2, 1) := by decide +kernel
theorem d902_633 : decode (zB 902) 633 = .ok (.iadd, 1) := by decide +kernel
theorem d902_634 : decode (zB 902) 634 = .ok (.iaload, 1) := by decide +kernel
theorem d902_635 : decode (zB 902) 635 = .ok (.invokevirtual 74, 3) := by decide +kernel
theorem d902_638 : decode (zB 902) 638 = .ok (.pop, 1) := by decide +kernel
theorem d902_639 : decode (zB 902) 639 = .ok (.goto 446, 3) := by decide +kernel
theorem d902_642 : decode (zB 902) 642 = .ok (.aload_n 1, 1) := by decide +kernel
theorem d902_643 : decode (zB 902) 643 = .ok (.aload_n 0, 1) := by decide +kernel
theorem d902_644 : decode (zB 902) 644 = .ok (.iload_n 3, 1) := by decide +kernel
theorem d902_645 : decode (zB 902) 645 = .ok (.iconst 1, 1) := by decide +kernel
theorem d902_646 : decode (zB 902) 646 = .ok (.iadd, 1) := by decide +kernel
theorem d902_647 : decode (zB 902) 647 = .ok (.iaload, 1) := by decide +kernel
theorem d902_648 : decode (zB 902) 648 = .ok (.invokevirtual 75, 3) := by decide +kernel
theorem d902_651 : decode (zB 902) 651 = .ok (.pop, 1) := by decide +kernel
theorem d902_652 : decode (zB 902) 652 = .ok (.aload_n 2, 1) := by decide +kernel
theorem d902_653 : decode (zB 902) 653 = .ok (.aload_n 0, 1) := by decide +kernel
theorem d902_654 : decode (zB 902) 654 = .ok (.iload_n 3, 1) := by decide +kernel
theorem d902_655 : decode (zB 902) 655 = .ok (.iconst 1, 1) := by decide +kernel
theorem d902_656 : decode (zB 902) 656 = .ok (.iadd, 1) := by decide +kernel
theorem d902_657 : decode (zB 902) 657 = .ok (.iaload, 1) := by decide +kernel
theorem d902_658 : decode (zB 902) 658 = .ok (.invokevirtual 79, 3) := by decide +kernel
theorem d902_661 : decode (zB 902) 661 = .ok (.pop, 1) := by decide +kernel
theorem d902_662 : decode (zB 902) 662 = .ok (.goto 423, 3) := by decide +kernel
theorem d902_665 : decode (zB 902) 665 = .ok (.aload_n 1, 1) := by decide +kernel
theorem d902_666 : decode (zB 902) 666 = .ok (.aload_n 0, 1) := by decide +kernel
theorem d902_667 : decode (zB 902) 667 = .ok (.iload_n 3, 1) := by decide +kernel
theorem d902_668 : decode (zB 902) 668 = .ok (.iconst 1, 1) := by decide +kernel
theorem d902_669 : decode (zB 902) 669 = .ok (.iadd, 1) := by decide +kernel
theorem d902_670 : decode (zB 902) 670 = .ok (.iaload, 1) := by decide +kernel
theorem d902_671 : decode (zB 902) 671 = .ok (.aload_n 0, 1) := by decide +kernel
theorem d902_672 : decode (zB 902) 672 = .ok (.iload_n 3, 1) := by decide +kernel
theorem d902_673 : decode (zB 902) 673 = .ok (.iconst 2, 1) := by decide +kernel
theorem d902_674 : decode (zB 902) 674 = .ok (.iadd, 1) := by decide +kernel
theorem d902_675 : decode (zB 902) 675 = .ok (.iaload, 1) := by decide +kernel
theorem d902_676 : decode (zB 902) 676 = .ok (.invokevirtual 80, 3) := by decide +kernel
theorem d902_679 : decode (zB 902) 679 = .ok (.pop, 1) := by decide +kernel
theorem d902_680 : decode (zB 902) 680 = .ok (.aload_n 2, 1) := by decide +kernel
theorem d902_681 : decode (zB 902) 681 = .ok (.aload_n 0, 1) := by decide +kernel
theorem d902_682 : decode (zB 902) 682 = .ok (.iload_n 3, 1) := by decide +kernel
theorem d902_683 : decode (zB 902) 683 = .ok (.iconst 1, 1) := by decide +kernel
theorem d902_684 : decode (zB 902) 684 = .ok (.iadd, 1) := by decide +kernel
theorem d902_685 : decode (zB 902) 685 = .ok (.iaload, 1) := by decide +kernel
theorem d902_686 : decode (zB 902) 686 = .ok (.aload_n 0, 1) := by decide +kernel
theorem d902_687 : decode (zB 902) 687 = .ok (.iload_n 3, 1) := by decide +kernel
theorem d902_688 : decode (zB 902) 688 = .ok (.iconst 2, 1) := by decide +kernel
theorem d902_689 : decode (zB 902) 689 = .ok (.iadd, 1) := by decide +kernel
theorem d902_690 : decode (zB 902) 690 = .ok (.iaload, 1) := by decide +kernel
theorem d902_691 : decode (zB 902) 691 = .ok (.invokevirtual 83, 3) := by decide +kernel
theorem d902_694 : decode (zB 902) 694 = .ok (.pop, 1) := by decide +kernel
theorem d902_695 : decode (zB 902) 695 = .ok (.goto 390, 3) := by decide +kernel
theorem d902_698 : decode (zB 902) 698 = .ok (.aload_n 1, 1) := by decide +kernel
theorem d902_699 : decode (zB 902) 699 = .ok (.aload_n 0, 1) := by decide +kernel
theorem d902_700 : decode (zB 902) 700 = .ok (.iload_n 3, 1) := by decide +kernel
theorem d902_701 : decode (zB 902) 701 = .ok (.iconst 1, 1) := by decide +kernel
theorem d902_702 : decode (zB 902) 702 = .ok (.iadd, 1) := by decide +kernel
theorem d902_703 : decode (zB 902) 703 = .ok (.iaload, 1) := by decide +kernel
theorem d902_704 : decode (zB 902) 704 = .ok (.aload_n 0, 1) := by decide +kernel
theorem d902_705 : decode (zB 902) 705 = .ok (.iload_n 3, 1) := by decide +kernel
theorem d902_706 : decode (zB 902) 706 = .ok (.iconst 2, 1) := by decide +kernel
theorem d902_707 : decode (zB 902) 707 = .ok (.iadd, 1) := by decide +kernel
theorem d902_708 : decode (zB 902) 708 = .ok (.iaload, 1) := by decide +kernel
theorem d902_709 : decode (zB 902) 709 = .ok (.invokevirtual 84, 3) := by decide +kernel
theorem d902_712 : decode (zB 902) 712 = .ok (.pop, 1) := by decide +kernel
theorem d902_713 : decode (zB 902) 713 = .ok (.aload_n 2, 1) := by decide +kernel
theorem d902_714 : decode (zB 902) 714 = .ok (.aload_n 0, 1) := by decide +kernel
theorem d902_715 : decode (zB 902) 715 = .ok (.iload_n 3, 1) := by decide +kernel
theorem d902_716 : decode (zB 902) 716 = .ok (.iconst 1, 1) := by decide +kernel
theorem d902_717 : decode (zB 902) 717 = .ok (.iadd, 1) := by decide +kernel
theorem d902_718 : decode (zB 902) 718 = .ok (.iaload, 1) := by decide +kernel
theorem d902_719 : decode (zB 902) 719 = .ok (.aload_n 0, 1) := by decide +kernel
theorem d902_720 : decode (zB 902) 720 = .ok (.iload_n 3, 1) := by decide +kernel
theorem d902_721 : decode (zB 902) 721 = .ok (.iconst 2, 1) := by decide +kernel
theorem d902_722 : decode (zB 902) 722 = .ok (.iadd, 1) := by decide +kernel
theorem d902_723 : decode (zB 902) 723 = .ok (.iaload, 1) := by decide +kernel
theorem d902_724 : decode (zB 902) 724 = .ok (.invokevirtual 87, 3) := by decide +kernel
theorem d902_727 : decode (zB 902) 727 = .ok (.pop, 1) := by decide +kernel
theorem d902_728 : decode (zB 902) 728 = .ok (.goto 357, 3) := by decide +kernel
theorem d902_731 : decode (zB 902) 731 = .ok (.aload_n 1, 1) := by decide +kernel
theorem d902_732 : decode (zB 902) 732 = .ok (.aload_n 0, 1) := by decide +kernel
theorem d902_733 : decode (zB 902) 733 = .ok (.iload_n 3, 1) := by decide +kernel
theorem d902_734 : decode (zB 902) 734 = .ok (.iconst 1, 1) := by decide +kernel
theorem d902_735 : decode (zB 902) 735 = .ok (.iadd, 1) := by decide +kernel
theorem d902_736 : decode (zB 902) 736 = .ok (.iaload, 1) := by decide +kernel
theorem d902_737 : decode (zB 902) 737 = .ok (.aload_n 0, 1) := by decide +kernel
theorem d902_738 : decode (zB 902) 738 = .ok (.iload_n 3, 1) := by decide +kernel
theorem d902_739 : decode (zB 902) 739 = .ok (.iconst 2, 1) := by decide +kernel
theorem d902_740 : decode (zB 902) 740 = .ok (.iadd, 1) := by decide +kernel
theorem d902_741 : decode (zB 902) 741 = .ok (.iaload, 1) := by decide +kernel
theorem d902_742 : decode (zB 902) 742 = .ok (.invokevirtual 88, 3) := by decide +kernel
theorem d902_745 : decode (zB 902) 745 = .ok (.pop, 1) := by decide +kernel
theorem d902_746 : decode (zB 902) 746 = .ok (.aload_n 2, 1) := by decide +kernel
theorem d902_747 : decode (zB 902) 747 = .ok (.aload_n 0, 1) := by decide +kernel
theorem d902_748 : decode (zB 902) 748 = .ok (.iload_n 3, 1) := by decide +kernel
theorem d902_749 : decode (zB 902) 749 = .ok (.iconst 1, 1) := by decide +kernel
theorem d902_750 : decode (zB 902) 750 = .ok (.iadd, 1) := by decide +kernel
theorem d902_751 : decode (zB 902) 751 = .ok (.iaload, 1) := by decide +kernel
theorem d902_752 : decode (zB 902) 752 = .ok (.aload_n 0, 1) := by decide +kernel
theorem d902_753 : decode (zB 902) 753 = .ok (.iload_n 3, 1) := by decide +kernel
theorem d902_754 : decode (zB 902) 754 = .ok (.iconst 2, 1) := by decide +kernel
theorem d902_755 : decode (zB 902) 755 = .ok (.iadd, 1) := by decide +kernel
theorem d902_756 : decode (zB 902) 756 = .ok (.iaload, 1) := by decide +kernel
theorem d902_757 : decode (zB 902) 757 = .ok (.invokevirtual 91, 3) := by decide +kernel
theorem d902_760 : decode (zB 902) 760 = .ok (.pop, 1) := by decide +kernel
theorem d902_761 : decode (zB 902) 761 = .ok (.goto 324, 3) := by decide +kernel
theorem d902_764 : decode (zB 902) 764 = .ok (.aload_n 1, 1) := by decide +kernel
theorem d902_765 : decode (zB 902) 765 = .ok (.aload_n 0, 1) := by decide +kernel
theorem d902_766 : decode (zB 902) 766 = .ok (.iload_n 3, 1) := by decide +kernel
theorem d902_767 : decode (zB 902) 767 = .ok (.iconst 1, 1) := by decide +kernel
theorem d902_768 : decode (zB 902) 768 = .ok (.iadd, 1) := by decide +kernel
theorem d902_769 : decode (zB 902) 769 = .ok (.iaload, 1) := by decide +kernel
theorem d902_770 : decode (zB 902) 770 = .ok (.aload_n 0, 1) := by decide +kernel
theorem d902_771 : decode (zB 902) 771 = .ok (.iload_n 3, 1) := by decide +kernel
theorem d902_772 : decode (zB 902) 772 = .ok (.iconst 2, 1) := by decide +kernel
theorem d902_773 : decode (zB 902) 773 = .ok (.iadd, 1) := by decide +kernel
theorem d902_774 : decode (zB 902) 774 = .ok (.iaload, 1) := by decide +kernel
theorem d902_775 : decode (zB 902) 775 = .ok (.aload_n 0, 1) := by decide +kernel
theorem d902_776 : decode (zB 902) 776 = .ok (.iload_n 3, 1) := by decide +kernel
theorem d902_777 : decode (zB 902) 777 = .ok (.iconst 3, 1) := by decide +kernel
theorem d902_778 : decode (zB 902) 778 = .ok (.iadd, 1) := by decide +kernel
theorem d902_779 : decode (zB 902) 779 = .ok (.iaload, 1) := by decide +kernel
theorem d902_780 : decode (zB 902) 780 = .ok (.aload_n 0, 1) := by decide +kernel
theorem d902_781 : decode (zB 902) 781 = .ok (.iload_n 3, 1) := by decide +kernel
theorem d902_782 : decode (zB 902) 782 = .ok (.iconst 4, 1) := by decide +kernel
theorem d902_783 : decode (zB 902) 783 = .ok (.iadd, 1) := by decide +kernel
theorem d902_784 : decode (zB 902) 784 = .ok (.iaload, 1) := by decide +kernel
theorem d902_785 : decode (zB 902) 785 = .ok (.invokevirtual 92, 3) := by decide +kernel
theorem d902_788 : decode (zB 902) 788 = .ok (.pop, 1) := by decide +kernel
theorem d902_789 : decode (zB 902) 789 = .ok (.aload_n 2, 1) := by decide +kernel
theorem d902_790 : decode (zB 902) 790 = .ok (.aload_n 0, 1) := by decide +kernel
theorem d902_791 : decode (zB 902) 791 = .ok (.iload_n 3, 1) := by decide +kernel
theorem d902_792 : decode (zB 902) 792 = .ok (.iconst 1, 1) := by decide +kernel
theorem d902_793 : decode (zB 902) 793 = .ok (.iadd, 1) := by decide +kernel
theorem d902_794 : decode (zB 902) 794 = .ok (.iaload, 1) := by decide +kernel
theorem d902_795 : decode (zB 902) 795 = .ok (.aload_n 0, 1) := by decide +kernel
theorem d902_796 : decode (zB 902) 796 = .ok (.iload_n 3, 1) := by decide +kernel
theorem d902_797 : decode (zB 902) 797 = .ok (.iconst 2, 1) := by decide +kernel
theorem d902_798 : decode (zB 902) 798 = .ok (.iadd, 1) := by decide +kernel
theorem d902_799 : decode (zB 902) 799 = .ok (.iaload, 1) := by decide +kernel
theorem d902_800 : decode (zB 902) 800 = .ok (.aload_n 0, 1) := by decide +kernel
theorem d902_801 : decode (zB 902) 801 = .ok (.iload_n 3, 1) := by decide +kernel
theorem d902_802 : decode (zB 902) 802 = .ok (.iconst 3, 1) := by decide +kernel
theorem d902_803 : decode (zB 902) 803 = .ok (.iadd, 1) := by decide +kernel
theorem d902_804 : decode (zB 902) 804 = .ok (.iaload, 1) := by decide +kernel
theorem d902_805 : decode (zB 902) 805 = .ok (.aload_n 0, 1) := by decide +kernel
theorem d902_806 : decode (zB 902) 806 = .ok (.iload_n 3, 1) := by decide +kernel
theorem d902_807 : decode (zB 902) 807 = .ok (.iconst 4, 1) := by decide +kernel
theorem d902_808 : decode (zB 902) 808 = .ok (.iadd, 1) := by decide +kernel
theorem d902_809 : decode (zB 902) 809 = .ok (.iaload, 1) := by decide +kernel
theorem d902_810 : decode (zB 902) 810 = .ok (.invokevirtual 95, 3) := by decide +kernel
theorem d902_813 : decode (zB 902) 813 = .ok (.pop, 1) := by decide +kernel
theorem d902_814 : decode (zB 902) 814 = .ok (.goto 271, 3) := by decide +kernel
theorem d902_817 : decode (zB 902) 817 = .ok (.aload_n 1, 1) := by decide +kernel
theorem d902_818 : decode (zB 902) 818 = .ok (.aload_n 0, 1) := by decide +kernel
theorem d902_819 : decode (zB 902) 819 = .ok (.iload_n 3, 1) := by decide +kernel
theorem d902_820 : decode (zB 902) 820 = .ok (.iconst 1, 1) := by decide +kernel
theorem d902_821 : decode (zB 902) 821 = .ok (.iadd, 1) := by decide +kernel
theorem d902_822 : decode (zB 902) 822 = .ok (.iaload, 1) := by decide +kernel
theorem d902_823 : decode (zB 902) 823 = .ok (.aload_n 0, 1) := by decide +kernel
theorem d902_824 : decode (zB 902) 824 = .ok (.iload_n 3, 1) := by decide +kernel
theorem d902_825 : decode (zB 902) 825 = .ok (.iconst 2, 1) := by decide +kernel
theorem d902_826 : decode (zB 902) 826 = .ok (.iadd, 1) := by decide +kernel
theorem d902_827 : decode (zB 902) 827 = .ok (.iaload, 1) := by decide +kernel
theorem d902_828 : decode (zB 902) 828 = .ok (.aload_n 0, 1) := by decide +kernel
theorem d902_829 : decode (zB 902) 829 = .ok (.iload_n 3, 1) := by decide +kernel
theorem d902_830 : decode (zB 902) 830 = .ok (.iconst 3, 1) := by decide +kernel
theorem d902_831 : decode (zB 902) 831 = .ok (.iadd, 1) := by decide +kernel
theorem d902_832 : decode (zB 902) 832 = .ok (.iaload, 1) := by decide +kernel
theorem d902_833 : decode (zB 902) 833 = .ok (.aload_n 0, 1) := by decide +kernel
theorem d902_834 : decode (zB 902) 834 = .ok (.iload_n 3, 1) := by decide +kernel
theorem d902_835 : decode (zB 902) 835 = .ok (.iconst 4, 1) := by decide +kernel
theorem d902_836 : decode (zB 902) 836 = .ok (.iadd, 1) := by decide +kernel
theorem d902_837 : decode (zB 902) 837 = .ok (.iaload, 1) := by decide +kernel
theorem d902_838 : decode (zB 902) 838 = .ok (.invokevirtual 96, 3) := by decide +kernel
theorem d902_841 : decode (zB 902) 841 = .ok (.pop, 1) := by decide +kernel
theorem d902_842 : decode (zB 902) 842 = .ok (.aload_n 2, 1) := by decide +kernel
theorem d902_843 : decode (zB 902) 843 = .ok (.aload_n 0, 1) := by decide +kernel
theorem d902_844 : decode (zB 902) 844 = .ok (.iload_n 3, 1) := by decide +kernel
theorem d902_845 : decode (zB 902) 845 = .ok (.iconst 1, 1) := by decide +kernel
theorem d902_846 : decode (zB 902) 846 = .ok (.iadd, 1) := by decide +kernel
theorem d902_847 : decode (zB 902) 847 = .ok (.iaload, 1) := by decide +kernel
theorem d902_848 : decode (zB 902) 848 = .ok (.aload_n 0, 1) := by decide +kernel
theorem d902_849 : decode (zB 902) 849 = .ok (.iload_n 3, 1) := by decide +kernel
theorem d902_850 : decode (zB 902) 850 = .ok (.iconst 2, 1) := by decide +kernel
theorem d902_851 : decode (zB 902) 851 = .ok (.iadd, 1) := by decide +kernel
theorem d902_852 : decode (zB 902) 852 = .ok (.iaload, 1) := by decide +kernel
theorem d902_853 : decode (zB 902) 853 = .ok (.aload_n 0, 1) := by decide +kernel
theorem d902_854 : decode (zB 902) 854 = .ok (.iload_n 3, 1) := by decide +kernel
theorem d902_855 : decode (zB 902) 855 = .ok (.iconst 3, 1) := by decide +kernel
theorem d902_856 : decode (zB 902) 856 = .ok (.iadd, 1) := by decide +kernel
theorem d902_857 : decode (zB 902) 857 = .ok (.iaload, 1) := by decide +kernel
theorem d902_858 : decode (zB 902) 858 = .ok (.aload_n 0, 1) := by decide +kernel
theorem d902_859 : decode (zB 902) 859 = .ok (.iload_n 3, 1) := by decide +kernel
theorem d902_860 : decode (zB 902) 860 = .ok (.iconst 4, 1) := by decide +kernel
theorem d902_861 : decode (zB 902) 861 = .ok (.iadd, 1) := by decide +kernel
theorem d902_862 : decode (zB 902) 862 = .ok (.iaload, 1) := by decide +kernel
theorem d902_863 : decode (zB 902) 863 = .ok (.invokevirtual 99, 3) := by decide +kernel
theorem d902_866 : decode (zB 902) 866 = .ok (.pop, 1) := by decide +kernel
theorem d902_867 : decode (zB 902) 867 = .ok (.goto 218, 3) := by decide +kernel
theorem d902_870 : decode (zB 902) 870 = .ok (.aload_n 1, 1) := by decide +kernel
theorem d902_871 : decode (zB 902) 871 = .ok (.aload_n 0, 1) := by decide +kernel
theorem d902_872 : decode (zB 902) 872 = .ok (.iload_n 3, 1) := by decide +kernel
theorem d902_873 : decode (zB 902) 873 = .ok (.iconst 1, 1) := by decide +kernel
theorem d902_874 : decode (zB 902) 874 = .ok (.iadd, 1) := by decide +kernel
theorem d902_875 : decode (zB 902) 875 = .ok (.iaload, 1) := by decide +kernel
theorem d902_876 : decode (zB 902) 876 = .ok (.aload_n 0, 1) := by decide +kernel
theorem d902_877 : decode (zB 902) 877 = .ok (.iload_n 3, 1) := by decide +kernel
theorem d902_878 : decode (zB 902) 878 = .ok (.iconst 2, 1) := by decide +kernel
theorem d902_879 : decode (zB 902) 879 = .ok (.iadd, 1) := by decide +kernel
theorem d902_880 : decode (zB 902) 880 = .ok (.iaload, 1) := by decide +kernel
theorem d902_881 : decode (zB 902) 881 = .ok (.aload_n 0, 1) := by decide +kernel
theorem d902_882 : decode (zB 902) 882 = .ok (.iload_n 3, 1) := by decide +kernel
theorem d902_883 : decode (zB 902) 883 = .ok (.iconst 3, 1) := by decide +kernel
theorem d902_884 : decode (zB 902) 884 = .ok (.iadd, 1) := by decide +kernel
theorem d902_885 : decode (zB 902) 885 = .ok (.iaload, 1) := by decide +kernel
theorem d902_886 : decode (zB 902) 886 = .ok (.invokevirtual 100, 3) := by decide +kernel
theorem d902_889 : decode (zB 902) 889 = .ok (.pop, 1) := by decide +kernel
theorem d902_890 : decode (zB 902) 890 = .ok (.aload_n 2, 1) := by decide +kernel
theorem d902_891 : decode (zB 902) 891 = .ok (.aload_n 0, 1) := by decide +kernel
theorem d902_892 : decode (zB 902) 892 = .ok (.iload_n 3, 1) := by decide +kernel
theorem d902_893 : decode (zB 902) 893 = .ok (.iconst 1, 1) := by decide +kernel
theorem d902_894 : decode (zB 902) 894 = .ok (.iadd, 1) := by decide +kernel
theorem d902_895 : decode (zB 902) 895 = .ok (.iaload, 1) := by decide +kernel
theorem d902_896 : decode (zB 902) 896 = .ok (.aload_n 0, 1) := by decide +kernel
theorem d902_897 : decode (zB 902) 897 = .ok (.iload_n 3, 1) := by decide +kernel
theorem d902_898 : decode (zB 902) 898 = .ok (.iconst 2, 1) := by decide +kernel
theorem d902_899 : decode (zB 902) 899 = .ok (.iadd, 1) := by decide +kernel
theorem d902_900 : decode (zB 902) 900 = .ok (.iaload, 1) := by decide +kernel
theorem d902_901 : decode (zB 902) 901 = .ok (.aload_n 0, 1) := by decide +kernel
theorem d902_902 : decode (zB 902) 902 = .ok (.iload_n 3, 1) := by decide +kernel
theorem d902_903 : decode (zB 902) 903 = .ok (.iconst 3, 1) := by decide +kernel
theorem d902_904 : decode (zB 902) 904 = .ok (.iadd, 1) := by decide +kernel
theorem d902_905 : decode (zB 902) 905 = .ok (.iaload, 1) := by decide +kernel
theorem d902_906 : decode (zB 902) 906 = .ok (.invokevirtual 103, 3) := by decide +kernel
theorem d902_909 : decode (zB 902) 909 = .ok (.pop, 1) := by decide +kernel
theorem d902_910 : decode (zB 902) 910 = .ok (.goto 175, 3) := by decide +kernel
theorem d902_913 : decode (zB 902) 913 = .ok (.aload_n 1, 1) := by decide +kernel
theorem d902_914 : decode (zB 902) 914 = .ok (.aload_n 0, 1) := by decide +kernel
theorem d902_915 : decode (zB 902) 915 = .ok (.iload_n 3, 1) := by decide +kernel
theorem d902_916 : decode (zB 902) 916 = .ok (.iconst 1, 1) := by decide +kernel
theorem d902_917 : decode (zB 902) 917 = .ok (.iadd, 1) := by decide +kernel
theorem d902_918 : decode (zB 902) 918 = .ok (.iaload, 1) := by decide +kernel
theorem d902_919 : decode (zB 902) 919 = .ok (.invokevirtual 104, 3) := by decide +kernel
theorem d902_922 : decode (zB 902) 922 = .ok (.aload_n 2, 1) := by decide +kernel
theorem d902_923 : decode (zB 902) 923 = .ok (.aload_n 0, 1) := by decide +kernel
theorem d902_924 : decode (zB 902) 924 = .ok (.iload_n 3, 1) := by decide +kernel
theorem d902_925 : decode (zB 902) 925 = .ok (.iconst 1, 1) := by decide +kernel
theorem d902_926 : decode (zB 902) 926 = .ok (.iadd, 1) := by decide +kernel
theorem d902_927 : decode (zB 902) 927 = .ok (.iaload, 1) := by decide +kernel
theorem d902_928 : decode (zB 902) 928 = .ok (.invokevirtual 107, 3) := by decide +kernel
theorem d902_931 : decode (zB 902) 931 = .ok (.if_icmp .eq 154, 3) := by decide +kernel
theorem d902_934 : decode (zB 902) 934 = .ok (.iconst 0, 1) := by decide +kernel
theorem d902_935 : decode (zB 902) 935 = .ok (.ireturn, 1) := by decide +kernel
theorem d902_936 : decode (zB 902) 936 = .ok (.aload_n 1, 1) := by decide +kernel
theorem d902_937 : decode (zB 902) 937 = .ok (.aload_n 0, 1) := by decide +kernel
theorem d902_938 : decode (zB 902) 938 = .ok (.iload_n 3, 1) := by decide +kernel
theorem d902_939 : decode (zB 902) 939 = .ok (.iconst 1, 1) := by decide +kernel
theorem d902_940 : decode (zB 902) 940 = .ok (.iadd, 1) := by decide +kernel
theorem d902_941 : decode (zB 902) 941 = .ok (.iaload, 1) := by decide +kernel
theorem d902_942 : decode (zB 902) 942 = .ok (.aload_n 0, 1) := by decide +kernel
theorem d902_943 : decode (zB 902) 943 = .ok (.iload_n 3, 1) := by decide +kernel
theorem d902_944 : decode (zB 902) 944 = .ok (.iconst 2, 1) := by decide +kernel
theorem d902_945 : decode (zB 902) 945 = .ok (.iadd, 1) := by decide +kernel
theorem d902_946 : decode (zB 902) 946 = .ok (.iaload, 1) := by decide +kernel
theorem d902_947 : decode (zB 902) 947 = .ok (.aload_n 0, 1) := by decide +kernel
theorem d902_948 : decode (zB 902) 948 = .ok (.iload_n 3, 1) := by decide +kernel
theorem d902_949 : decode (zB 902) 949 = .ok (.iconst 3, 1) := by decide +kernel
theorem d902_950 : decode (zB 902) 950 = .ok (.iadd, 1) := by decide +kernel
theorem d902_951 : decode (zB 902) 951 = .ok (.iaload, 1) := by decide +kernel
theorem d902_952 : decode (zB 902) 952 = .ok (.invokevirtual 108, 3) := by decide +kernel
theorem d902_955 : decode (zB 902) 955 = .ok (.pop, 1) := by decide +kernel
theorem d902_956 : decode (zB 902) 956 = .ok (.aload_n 2, 1) := by decide +kernel
theorem d902_957 : decode (zB 902) 957 = .ok (.aload_n 0, 1) := by decide +kernel
theorem d902_958 : decode (zB 902) 958 = .ok (.iload_n 3, 1) := by decide +kernel
theorem d902_959 : decode (zB 902) 959 = .ok (.iconst 1, 1) := by decide +kernel
theorem d902_960 : decode (zB 902) 960 = .ok (.iadd, 1) := by decide +kernel
theorem d902_961 : decode (zB 902) 961 = .ok (.iaload, 1) := by decide +kernel
theorem d902_962 : decode (zB 902) 962 = .ok (.aload_n 0, 1) := by decide +kernel
theorem d902_963 : decode (zB 902) 963 = .ok (.iload_n 3, 1) := by decide +kernel
theorem d902_964 : decode (zB 902) 964 = .ok (.iconst 2, 1) := by decide +kernel
theorem d902_965 : decode (zB 902) 965 = .ok (.iadd, 1) := by decide +kernel
theorem d902_966 : decode (zB 902) 966 = .ok (.iaload, 1) := by decide +kernel
theorem d902_967 : decode (zB 902) 967 = .ok (.aload_n 0, 1) := by decide +kernel
theorem d902_968 : decode (zB 902) 968 = .ok (.iload_n 3, 1) := by decide +kernel
theorem d902_969 : decode (zB 902) 969 = .ok (.iconst 3, 1) := by decide +kernel
theorem d902_970 : decode (zB 902) 970 = .ok (.iadd, 1) := by decide +kernel
theorem d902_971 : decode (zB 902) 971 = .ok (.iaload, 1) := by decide +kernel
theorem d902_972 : decode (zB 902) 972 = .ok (.invokevirtual 111, 3) := by decide +kernel
theorem d902_975 : decode (zB 902) 975 = .ok (.pop, 1) := by decide +kernel
theorem d902_976 : decode (zB 902) 976 = .ok (.goto 109, 3) := by decide +kernel
theorem d902_979 : decode (zB 902) 979 = .ok (.aload_n 1, 1) := by decide +kernel
theorem d902_980 : decode (zB 902) 980 = .ok (.aload_n 0, 1) := by decide +kernel
theorem d902_981 : decode (zB 902) 981 = .ok (.iload_n 3, 1) := by decide +kernel
theorem d902_982 : decode (zB 902) 982 = .ok (.iconst 1, 1) := by decide +kernel
theorem d902_983 : decode (zB 902) 983 = .ok (.iadd, 1) := by decide +kernel
theorem d902_984 : decode (zB 902) 984 = .ok (.iaload, 1) := by decide +kernel
theorem d902_985 : decode (zB 902) 985 = .ok (.aload_n 0, 1) := by decide +kernel
theorem d902_986 : decode (zB 902) 986 = .ok (.iload_n 3, 1) := by decide +kernel
theorem d902_987 : decode (zB 902) 987 = .ok (.iconst 2, 1) := by decide +kernel
theorem d902_988 : decode (zB 902) 988 = .ok (.iadd, 1) := by decide +kernel
theorem d902_989 : decode (zB 902) 989 = .ok (.iaload, 1) := by decide +kernel
theorem d902_990 : decode (zB 902) 990 = .ok (.aload_n 0, 1) := by decide +kernel
theorem d902_991 : decode (zB 902) 991 = .ok (.iload_n 3, 1) := by decide +kernel
theorem d902_992 : decode (zB 902) 992 = .ok (.iconst 3, 1) := by decide +kernel
theorem d902_993 : decode (zB 902) 993 = .ok (.iadd, 1) := by decide +kernel
theorem d902_994 : decode (zB 902) 994 = .ok (.iaload, 1) := by decide +kernel
theorem d902_995 : decode (zB 902) 995 = .ok (.invokevirtual 112, 3) := by decide +kernel
theorem d902_998 : decode (zB 902) 998 = .ok (.pop, 1) := by decide +kernel
theorem d902_999 : decode (zB 902) 999 = .ok (.aload_n 2, 1) := by decide +kernel
theorem d902_1000 : decode (zB 902) 1000 = .ok (.aload_n 0, 1) := by decide +kernel
theorem d902_1001 : decode (zB 902) 1001 = .ok (.iload_n 3, 1) := by decide +kernel
theorem d902_1002 : decode (zB 902) 1002 = .ok (.iconst 1, 1) := by decide +kernel
theorem d902_1003 : decode (zB 902) 1003 = .ok (.iadd, 1) := by decide +kernel
theorem d902_1004 : decode (zB 902) 1004 = .ok (.iaload, 1) := by decide +kernel
theorem d902_1005 : decode (zB 902) 1005 = .ok (.aload_n 0, 1) := by decide +kernel
theorem d902_1006 : decode (zB 902) 1006 = .ok (.iload_n 3, 1) := by decide +kernel
theorem d902_1007 : decode (zB 902) 1007 = .ok (.iconst 2, 1) := by decide +kernel
theorem d902_1008 : decode (zB 902) 1008 = .ok (.iadd, 1) := by decide +kernel
theorem d902_1009 : decode (zB 902) 1009 = .ok (.iaload, 1) := by decide +kernel
theorem d902_1010 : decode (zB 902) 1010 = .ok (.aload_n 0, 1) := by decide +kernel
theorem d902_1011 : decode (zB 902) 1011 = .ok (.iload_n 3, 1) := by decide +kernel
theorem d902_1012 : decode (zB 902) 1012 = .ok (.iconst 3, 1) := by decide +kernel
theorem d902_1013 : decode (zB 902) 1013 = .ok (.iadd, 1) := by decide +kernel
theorem d902_1014 : decode (zB 902) 1014 = .ok (.iaload, 1) := by decide +kernel
theorem d902_1015 : decode (zB 902) 1015 = .ok (.invokevirtual 115, 3) := by decide +kernel
theorem d902_1018 : decode (zB 902) 1018 = .ok (.pop, 1) := by decide +kernel
theorem d902_1019 : decode (zB 902) 1019 = .ok (.goto 66, 3) := by decide +kernel
theorem d902_1022 : decode (zB 902) 1022 = .ok (.aload_n 1, 1) := by decide +kernel
theorem d902_1023 : decode (zB 902) 1023 = .ok (.aload_n 0, 1) := by decide +kernel
theorem d902_1024 : decode (zB 902) 1024 = .ok (.iload_n 3, 1) := by decide +kernel
theorem d902_1025 : decode (zB 902) 1025 = .ok (.iconst 1, 1) := by decide +kernel
theorem d902_1026 : decode (zB 902) 1026 = .ok (.iadd, 1) := by decide +kernel
theorem d902_1027 : decode (zB 902) 1027 = .ok (.iaload, 1) := by decide +kernel
theorem d902_1028 : decode (zB 902) 1028 = .ok (.aload_n 0, 1) := by decide +kernel
theorem d902_1029 : decode (zB 902) 1029 = .ok (.iload_n 3, 1) := by decide +kernel
theorem d902_1030 : decode (zB 902) 1030 = .ok (.iconst 2, 1) := by decide +kernel
theorem d902_1031 : decode (zB 902) 1031 = .ok (.iadd, 1) := by decide +kernel
theorem d902_1032 : decode (zB 902) 1032 = .ok (.iaload, 1) := by decide +kernel
theorem d902_1033 : decode (zB 902) 1033 = .ok (.aload_n 0, 1) := by decide +kernel
theorem d902_1034 : decode (zB 902) 1034 = .ok (.iload_n 3, 1) := by decide +kernel
theorem d902_1035 : decode (zB 902) 1035 = .ok (.iconst 3, 1) := by decide +kernel
theorem d902_1036 : decode (zB 902) 1036 = .ok (.iadd, 1) := by decide +kernel
theorem d902_1037 : decode (zB 902) 1037 = .ok (.iaload, 1) := by decide +kernel
theorem d902_1038 : decode (zB 902) 1038 = .ok (.aload_n 0, 1) := by decide +kernel
theorem d902_1039 : decode (zB 902) 1039 = .ok (.iload_n 3, 1) := by decide +kernel
theorem d902_1040 : decode (zB 902) 1040 = .ok (.iconst 4, 1) := by decide +kernel
theorem d902_1041 : decode (zB 902) 1041 = .ok (.iadd, 1) := by decide +kernel
theorem d902_1042 : decode (zB 902) 1042 = .ok (.iaload, 1) := by decide +kernel
theorem d902_1043 : decode (zB 902) 1043 = .ok (.aload_n 0, 1) := by decide +kernel
theorem d902_1044 : decode (zB 902) 1044 = .ok (.iload_n 3, 1) := by decide +kernel
theorem d902_1045 : decode (zB 902) 1045 = .ok (.iconst 5, 1) := by decide +kernel
theorem d902_1046 : decode (zB 902) 1046 = .ok (.iadd, 1) := by decide +kernel
theorem d902_1047 : decode (zB 902) 1047 = .ok (.iaload, 1) := by decide +kernel
theorem d902_1048 : decode (zB 902) 1048 = .ok (.invokevirtual 116, 3) := by decide +kernel
theorem d902_1051 : decode (zB 902) 1051 = .ok (.pop, 1) := by decide +kernel
theorem d902_1052 : decode (zB 902) 1052 = .ok (.aload_n 2, 1) := by decide +kernel
theorem d902_1053 : decode (zB 902) 1053 = .ok (.aload_n 0, 1) := by decide +kernel
theorem d902_1054 : decode (zB 902) 1054 = .ok (.iload_n 3, 1) := by decide +kernel
theorem d902_1055 : decode (zB 902) 1055 = .ok (.iconst 1, 1) := by decide +kernel
theorem d902_1056 : decode (zB 902) 1056 = .ok (.iadd, 1) := by decide +kernel
theorem d902_1057 : decode (zB 902) 1057 = .ok (.iaload, 1) := by decide +kernel
theorem d902_1058 : decode (zB 902) 1058 = .ok (.aload_n 0, 1) := by decide +kernel
theorem d902_1059 : decode (zB 902) 1059 = .ok (.iload_n 3, 1) := by decide +kernel
theorem d902_1060 : decode (zB 902) 1060 = .ok (.iconst 2, 1) := by decide +kernel
theorem d902_1061 : decode (zB 902) 1061 = .ok (.iadd, 1) := by decide +kernel
theorem d902_1062 : decode (zB 902) 1062 = .ok (.iaload, 1) := by decide +kernel
theorem d902_1063 : decode (zB 902) 1063 = .ok (.aload_n 0, 1) := by decide +kernel
theorem d902_1064 : decode (zB 902) 1064 = .ok (.iload_n 3, 1) := by decide +kernel
theorem d902_1065 : decode (zB 902) 1065 = .ok (.iconst 3, 1) := by decide +kernel
theorem d902_1066 : decode (zB 902) 1066 = .ok (.iadd, 1) := by decide +kernel
theorem d902_1067 : decode (zB 902) 1067 = .ok (.iaload, 1) := by decide +kernel
theorem d902_1068 : decode (zB 902) 1068 = .ok (.aload_n 0, 1) := by decide +kernel
theorem d902_1069 : decode (zB 902) 1069 = .ok (.iload_n 3, 1) := by decide +kernel
theorem d902_1070 : decode (zB 902) 1070 = .ok (.iconst 4, 1) := by decide +kernel
theorem d902_1071 : decode (zB 902) 1071 = .ok (.iadd, 1) := by decide +kernel
theorem d902_1072 : decode (zB 902) 1072 = .ok (.iaload, 1) := by decide +kernel
theorem d902_1073 : decode (zB 902) 1073 = .ok (.aload_n 0, 1) := by decide +kernel
theorem d902_1074 : decode (zB 902) 1074 = .ok (.iload_n 3, 1) := by decide +kernel
theorem d902_1075 : decode (zB 902) 1075 = .ok (.iconst 5, 1) := by decide +kernel
theorem d902_1076 : decode (zB 902) 1076 = .ok (.iadd, 1) := by decide +kernel
theorem d902_1077 : decode (zB 902) 1077 = .ok (.iaload, 1) := by decide +kernel
theorem d902_1078 : decode (zB 902) 1078 = .ok (.invokevirtual 120, 3) := by decide +kernel
theorem d902_1081 : decode (zB 902) 1081 = .ok (.pop, 1) := by decide +kernel
theorem d902_1082 : decode (zB 902) 1082 = .ok (.goto 3, 3) := by decide +kernel
theorem d902_1085 : decode (zB 902) 1085 = .ok (.iinc 3 7, 3) := by decide +kernel
theorem d902_1088 : decode (zB 902) 1088 = .ok (.goto (-1070), 3) := by decide +kernel
theorem d902_1091 : decode (zB 902) 1091 = .ok (.iconst 1, 1) := by decide +kernel
theorem d902_1092 : decode (zB 902) 1092 = .ok (.ireturn, 1) := by decide +kernel
theorem l902_0 {Q : Option Value → zM → Prop} {xs : Nat → Int32} {L : Nat} {M : zM} {D : yD} {κ i : Nat} (hL : L ≤ 3584) (h : LI xs L M D κ i) (hi : 7 * i + 7 ≤ L) (nx : ∀ M' D' κ', LI xs L M' D' κ' (i + 1) → qW (zEv 40) 902 Q 18 [(3, .int (nI (7 * i + 7))), (2, .ref 136), (1, .ref 16), (0, .ref 0)] [] M') : qW (zEv 40) 902 Q 148 [(3, .int (nI (7 * i))), (2, .ref 136), (1, .ref 16), (0, .ref 0)] [] M := by
  have hs := h.2.2.2.2.2.1
  have hz := h.2.2.2.2.2.2
  refine q_aload_n d902_148 rfl ?_
  refine q_aload_n d902_149 rfl ?_
  refine q_iload_n d902_150 rfl ?_
  refine q_iconstN (z := 1) d902_151 ?_
  refine n_iadd d902_152 ?_
  refine n_ialds d902_153 ⟨by decide, hz⟩ (by omega) (by omega) (hs _) ?_
  refine q_aload_n d902_154 rfl ?_
  refine q_iload_n d902_155 rfl ?_
  refine q_iconstN (z := 2) d902_156 ?_
  refine n_iadd d902_157 ?_
  refine n_ialds d902_158 ⟨by decide, hz⟩ (by omega) (by omega) (hs _) ?_
  refine q_aload_n d902_159 rfl ?_
  refine q_iload_n d902_160 rfl ?_
  refine q_iconstN (z := 3) d902_161 ?_
  refine n_iadd d902_162 ?_
  refine n_ialds d902_163 ⟨by decide, hz⟩ (by omega) (by omega) (hs _) ?_
  refine q_aload_n d902_164 rfl ?_
  refine q_iload_n d902_165 rfl ?_
  refine q_iconstN (z := 4) d902_166 ?_
  refine n_iadd d902_167 ?_
  refine n_ialds d902_168 ⟨by decide, hz⟩ (by omega) (by omega) (hs _) ?_
  refine q_aload_n d902_169 rfl ?_
  refine q_iload_n d902_170 rfl ?_
  refine q_iconstN (z := 5) d902_171 ?_
  refine n_iadd d902_172 ?_
  refine n_ialds d902_173 ⟨by decide, hz⟩ (by omega) (by omega) (hs _) ?_
  refine q_aload_n d902_174 rfl ?_
  refine q_iload_n d902_175 rfl ?_
  refine q_bipush (x := nI 6) d902_176 rfl ?_
  refine n_iadd d902_178 ?_
  refine n_ialds d902_179 ⟨by decide, hz⟩ (by omega) (by omega) (hs _) ?_
  refine q_v6 d902_180 rfl rfl h.1.1.1.1.1 (Nat.le_of_ble_eq_true rfl) (p9 h.1 h.2.2.1 (fun M1 hR1 f1 => ?_))
  have hc : LC xs L M1 D (sFeed D (xs (7 * i + 1)) (xs (7 * i + 2)) (xs (7 * i + 3)) (xs (7 * i + 4)) (xs (7 * i + 5)) (xs (7 * i + 6))).2 κ i := h.c hR1 f1
  have hs1 := hc.2.2.2.2.2.1
  have hz1 := hc.2.2.2.2.2.2
  refine q_pop d902_183 rfl ?_
  refine q_aload_n d902_184 rfl ?_
  refine q_aload_n d902_185 rfl ?_
  refine q_iload_n d902_186 rfl ?_
  refine q_iconstN (z := 1) d902_187 ?_
  refine n_iadd d902_188 ?_
  refine n_ialds d902_189 ⟨by decide, hz1⟩ (by omega) (by omega) (hs1 _) ?_
  refine q_aload_n d902_190 rfl ?_
  refine q_iload_n d902_191 rfl ?_
  refine q_iconstN (z := 2) d902_192 ?_
  refine n_iadd d902_193 ?_
  refine n_ialds d902_194 ⟨by decide, hz1⟩ (by omega) (by omega) (hs1 _) ?_
  refine q_aload_n d902_195 rfl ?_
  refine q_iload_n d902_196 rfl ?_
  refine q_iconstN (z := 3) d902_197 ?_
  refine n_iadd d902_198 ?_
  refine n_ialds d902_199 ⟨by decide, hz1⟩ (by omega) (by omega) (hs1 _) ?_
  refine q_aload_n d902_200 rfl ?_
  refine q_iload_n d902_201 rfl ?_
  refine q_iconstN (z := 4) d902_202 ?_
  refine n_iadd d902_203 ?_
  refine n_ialds d902_204 ⟨by decide, hz1⟩ (by omega) (by omega) (hs1 _) ?_
  refine q_aload_n d902_205 rfl ?_
  refine q_iload_n d902_206 rfl ?_
  refine q_iconstN (z := 5) d902_207 ?_
  refine n_iadd d902_208 ?_
  refine n_ialds d902_209 ⟨by decide, hz1⟩ (by omega) (by omega) (hs1 _) ?_
  refine q_aload_n d902_210 rfl ?_
  refine q_iload_n d902_211 rfl ?_
  refine q_bipush (x := nI 6) d902_212 rfl ?_
  refine n_iadd d902_214 ?_
  refine n_ialds d902_215 ⟨by decide, hz1⟩ (by omega) (by omega) (hs1 _) ?_
  refine q_v6 d902_216 rfl rfl (xk_136 hc.2.1.1.1) (Nat.le_of_ble_eq_true rfl) (x130 hc.2.1 h.2.2.1 (by have := h.2.2.2.1; omega) (fun M2 κ2 hk2 hX2 f2 => ?_))
  refine q_pop d902_219 rfl ?_
  refine q_goto 1085 d902_220 (by decide) ?_
  refine n_iinc 7 d902_1085 (by decide) rfl rfl ?_
  refine q_goto 18 d902_1088 (by decide) ?_
  exact nx _ _ _ (hc.y hX2 hk2 (OKD_feed h.2.2.1) f2)
theorem l902_1 {Q : Option Value → zM → Prop} {xs : Nat → Int32} {L : Nat} {M : zM} {D : yD} {κ i : Nat} (hL : L ≤ 3584) (h : LI xs L M D κ i) (hi : 7 * i + 7 ≤ L) (nx : ∀ M' D' κ', LI xs L M' D' κ' (i + 1) → qW (zEv 40) 902 Q 18 [(3, .int (nI (7 * i + 7))), (2, .ref 136), (1, .ref 16), (0, .ref 0)] [] M') : qW (zEv 40) 902 Q 223 [(3, .int (nI (7 * i))), (2, .ref 136), (1, .ref 16), (0, .ref 0)] [] M := by
  have hs := h.2.2.2.2.2.1
  have hz := h.2.2.2.2.2.2
  refine q_aload_n d902_223 rfl ?_
  refine q_v0 d902_224 rfl rfl h.1.1.1.1.1 (Nat.le_of_ble_eq_true rfl) (p13 h.1 h.2.2.1 (fun M1 hR1 f1 => ?_))
  have hc : LC xs L M1 D (sText D).2 κ i := h.c hR1 f1
  have hs1 := hc.2.2.2.2.2.1
  have hz1 := hc.2.2.2.2.2.2
  refine q_pop d902_227 rfl ?_
  refine q_aload_n d902_228 rfl ?_
  refine q_v0 d902_229 rfl rfl (xk_136 hc.2.1.1.1) (Nat.le_of_ble_eq_true rfl) (x133 hc.2.1 h.b (fun M2 κ2 hk2 hX2 f2 => ?_))
  refine q_pop d902_232 rfl ?_
  refine q_goto 1085 d902_233 (by decide) ?_
  refine n_iinc 7 d902_1085 (by decide) rfl rfl ?_
  refine q_goto 18 d902_1088 (by decide) ?_
  exact nx _ _ _ (hc.y hX2 hk2 (OKD_text h.2.2.1 h.b) f2)
theorem l902_2 {Q : Option Value → zM → Prop} {xs : Nat → Int32} {L : Nat} {M : zM} {D : yD} {κ i : Nat} (hL : L ≤ 3584) (h : LI xs L M D κ i) (hi : 7 * i + 7 ≤ L) (nx : ∀ M' D' κ', LI xs L M' D' κ' (i + 1) → qW (zEv 40) 902 Q 18 [(3, .int (nI (7 * i + 7))), (2, .ref 136), (1, .ref 16), (0, .ref 0)] [] M') : qW (zEv 40) 902 Q 236 [(3, .int (nI (7 * i))), (2, .ref 136), (1, .ref 16), (0, .ref 0)] [] M := by
  have hs := h.2.2.2.2.2.1
  have hz := h.2.2.2.2.2.2
  refine q_aload_n d902_236 rfl ?_
  refine q_aload_n d902_237 rfl ?_
  refine q_iload_n d902_238 rfl ?_
  refine q_iconstN (z := 1) d902_239 ?_
  refine n_iadd d902_240 ?_
  refine n_ialds d902_241 ⟨by decide, hz⟩ (by omega) (by omega) (hs _) ?_
  refine q_aload_n d902_242 rfl ?_
  refine q_iload_n d902_243 rfl ?_
  refine q_iconstN (z := 2) d902_244 ?_
  refine n_iadd d902_245 ?_
  refine n_ialds d902_246 ⟨by decide, hz⟩ (by omega) (by omega) (hs _) ?_
  refine q_v2 d902_247 rfl rfl h.1.1.1.1.1 (Nat.le_of_ble_eq_true rfl) (p32 h.1 h.2.2.1 (fun M1 hR1 f1 => ?_))
  have hc : LC xs L M1 D D κ i := h.c hR1 f1
  have hs1 := hc.2.2.2.2.2.1
  have hz1 := hc.2.2.2.2.2.2
  refine q_pop d902_250 rfl ?_
  refine q_aload_n d902_251 rfl ?_
  refine q_aload_n d902_252 rfl ?_
  refine q_iload_n d902_253 rfl ?_
  refine q_iconstN (z := 1) d902_254 ?_
  refine n_iadd d902_255 ?_
  refine n_ialds d902_256 ⟨by decide, hz1⟩ (by omega) (by omega) (hs1 _) ?_
  refine q_aload_n d902_257 rfl ?_
  refine q_iload_n d902_258 rfl ?_
  refine q_iconstN (z := 2) d902_259 ?_
  refine n_iadd d902_260 ?_
  refine n_ialds d902_261 ⟨by decide, hz1⟩ (by omega) (by omega) (hs1 _) ?_
  refine q_v2 d902_262 rfl rfl (xk_136 hc.2.1.1.1) (Nat.le_of_ble_eq_true rfl) (x144 hc.2.1 hc.2.2.2.2.1.1 (fun v2 M2 hX2 f2 => ?_))
  refine q_pop d902_265 rfl ?_
  refine q_goto 1085 d902_266 (by decide) ?_
  refine n_iinc 7 d902_1085 (by decide) rfl rfl ?_
  refine q_goto 18 d902_1088 (by decide) ?_
  exact nx _ _ _ (hc.x hX2 (Nat.le_add_right _ _) h.2.2.1 f2)
theorem l902_3 {Q : Option Value → zM → Prop} {xs : Nat → Int32} {L : Nat} {M : zM} {D : yD} {κ i : Nat} (hL : L ≤ 3584) (h : LI xs L M D κ i) (hi : 7 * i + 7 ≤ L) (nx : ∀ M' D' κ', LI xs L M' D' κ' (i + 1) → qW (zEv 40) 902 Q 18 [(3, .int (nI (7 * i + 7))), (2, .ref 136), (1, .ref 16), (0, .ref 0)] [] M') : qW (zEv 40) 902 Q 269 [(3, .int (nI (7 * i))), (2, .ref 136), (1, .ref 16), (0, .ref 0)] [] M := by
  have hs := h.2.2.2.2.2.1
  have hz := h.2.2.2.2.2.2
  refine q_aload_n d902_269 rfl ?_
  refine q_aload_n d902_270 rfl ?_
  refine q_iload_n d902_271 rfl ?_
  refine q_iconstN (z := 1) d902_272 ?_
  refine n_iadd d902_273 ?_
  refine n_ialds d902_274 ⟨by decide, hz⟩ (by omega) (by omega) (hs _) ?_
  refine q_v1 d902_275 rfl rfl h.1.1.1.1.1 (Nat.le_of_ble_eq_true rfl) (p54 h.1 h.2.2.1 (fun M1 hR1 f1 => ?_))
  have hc : LC xs L M1 D D κ i := h.c hR1 f1
  have hs1 := hc.2.2.2.2.2.1
  have hz1 := hc.2.2.2.2.2.2
  refine q_pop2 d902_278 rfl ?_
  refine q_aload_n d902_279 rfl ?_
  refine q_aload_n d902_280 rfl ?_
  refine q_iload_n d902_281 rfl ?_
  refine q_iconstN (z := 1) d902_282 ?_
  refine n_iadd d902_283 ?_
  refine n_ialds d902_284 ⟨by decide, hz1⟩ (by omega) (by omega) (hs1 _) ?_
  refine q_v1 d902_285 rfl rfl (xk_136 hc.2.1.1.1) (Nat.le_of_ble_eq_true rfl) (x163 hc.2.1 (fun v2 M2 hX2 f2 => ?_))
  refine q_pop2 d902_288 rfl ?_
  refine q_goto 1085 d902_289 (by decide) ?_
  refine n_iinc 7 d902_1085 (by decide) rfl rfl ?_
  refine q_goto 18 d902_1088 (by decide) ?_
  exact nx _ _ _ (hc.x hX2 (Nat.le_add_right _ _) h.2.2.1 f2)
theorem l902_4 {Q : Option Value → zM → Prop} {xs : Nat → Int32} {L : Nat} {M : zM} {D : yD} {κ i : Nat} (hL : L ≤ 3584) (h : LI xs L M D κ i) (hi : 7 * i + 7 ≤ L) (nx : ∀ M' D' κ', LI xs L M' D' κ' (i + 1) → qW (zEv 40) 902 Q 18 [(3, .int (nI (7 * i + 7))), (2, .ref 136), (1, .ref 16), (0, .ref 0)] [] M') : qW (zEv 40) 902 Q 292 [(3, .int (nI (7 * i))), (2, .ref 136), (1, .ref 16), (0, .ref 0)] [] M := by
  have hs := h.2.2.2.2.2.1
  have hz := h.2.2.2.2.2.2
  refine q_aload_n d902_292 rfl ?_
  refine q_aload_n d902_293 rfl ?_
  refine q_iload_n d902_294 rfl ?_
  refine q_iconstN (z := 1) d902_295 ?_
  refine n_iadd d902_296 ?_
  refine n_ialds d902_297 ⟨by decide, hz⟩ (by omega) (by omega) (hs _) ?_
  refine q_aload_n d902_298 rfl ?_
  refine q_iload_n d902_299 rfl ?_
  refine q_iconstN (z := 2) d902_300 ?_
  refine n_iadd d902_301 ?_
  refine n_ialds d902_302 ⟨by decide, hz⟩ (by omega) (by omega) (hs _) ?_
  refine q_aload_n d902_303 rfl ?_
  refine q_iload_n d902_304 rfl ?_
  refine q_iconstN (z := 3) d902_305 ?_
  refine n_iadd d902_306 ?_
  refine n_ialds d902_307 ⟨by decide, hz⟩ (by omega) (by omega) (hs _) ?_
  refine q_v3 d902_308 rfl rfl h.1.1.1.1.1 (Nat.le_of_ble_eq_true rfl) (p56 h.1 h.2.2.1 (fun M1 hR1 f1 => ?_))
  have hc : LC xs L M1 D D κ i := h.c hR1 f1
  have hs1 := hc.2.2.2.2.2.1
  have hz1 := hc.2.2.2.2.2.2
  refine q_pop d902_311 rfl ?_
  refine q_aload_n d902_312 rfl ?_
  refine q_aload_n d902_313 rfl ?_
  refine q_iload_n d902_314 rfl ?_
  refine q_iconstN (z := 1) d902_315 ?_
  refine n_iadd d902_316 ?_
  refine n_ialds d902_317 ⟨by decide, hz1⟩ (by omega) (by omega) (hs1 _) ?_
  refine q_aload_n d902_318 rfl ?_
  refine q_iload_n d902_319 rfl ?_
  refine q_iconstN (z := 2) d902_320 ?_
  refine n_iadd d902_321 ?_
  refine n_ialds d902_322 ⟨by decide, hz1⟩ (by omega) (by omega) (hs1 _) ?_
  refine q_aload_n d902_323 rfl ?_
  refine q_iload_n d902_324 rfl ?_
  refine q_iconstN (z := 3) d902_325 ?_
  refine n_iadd d902_326 ?_
  refine n_ialds d902_327 ⟨by decide, hz1⟩ (by omega) (by omega) (hs1 _) ?_
  refine q_v3 d902_328 rfl rfl (xk_136 hc.2.1.1.1) (Nat.le_of_ble_eq_true rfl) (x165 hc.2.1 h.2.2.1 (by have := h.2.2.2.1; omega) (fun M2 hX2 f2 => ?_))
  refine q_pop d902_331 rfl ?_
  refine q_goto 1085 d902_332 (by decide) ?_
  refine n_iinc 7 d902_1085 (by decide) rfl rfl ?_
  refine q_goto 18 d902_1088 (by decide) ?_
  exact nx _ _ _ (hc.y hX2 (Nat.le_add_right _ _) h.2.2.1 f2)
theorem l902_5 {Q : Option Value → zM → Prop} {xs : Nat → Int32} {L : Nat} {M : zM} {D : yD} {κ i : Nat} (hL : L ≤ 3584) (h : LI xs L M D κ i) (hi : 7 * i + 7 ≤ L) (nx : ∀ M' D' κ', LI xs L M' D' κ' (i + 1) → qW (zEv 40) 902 Q 18 [(3, .int (nI (7 * i + 7))), (2, .ref 136), (1, .ref 16), (0, .ref 0)] [] M') : qW (zEv 40) 902 Q 335 [(3, .int (nI (7 * i))), (2, .ref 136), (1, .ref 16), (0, .ref 0)] [] M := by
  have hs := h.2.2.2.2.2.1
  have hz := h.2.2.2.2.2.2
  refine q_aload_n d902_335 rfl ?_
  refine q_aload_n d902_336 rfl ?_
  refine q_iload_n d902_337 rfl ?_
  refine q_iconstN (z := 1) d902_338 ?_
  refine n_iadd d902_339 ?_
  refine n_ialds d902_340 ⟨by decide, hz⟩ (by omega) (by omega) (hs _) ?_
  refine q_aload_n d902_341 rfl ?_
  refine q_iload_n d902_342 rfl ?_
  refine q_iconstN (z := 2) d902_343 ?_
  refine n_iadd d902_344 ?_
  refine n_ialds d902_345 ⟨by decide, hz⟩ (by omega) (by omega) (hs _) ?_
  refine q_aload_n d902_346 rfl ?_
  refine q_iload_n d902_347 rfl ?_
  refine q_iconstN (z := 3) d902_348 ?_
  refine n_iadd d902_349 ?_
  refine n_ialds d902_350 ⟨by decide, hz⟩ (by omega) (by omega) (hs _) ?_
  refine q_v3 d902_351 rfl rfl h.1.1.1.1.1 (Nat.le_of_ble_eq_true rfl) (p57 h.1 h.2.2.1 (fun M1 hR1 f1 => ?_))
  have hc : LC xs L M1 D D κ i := h.c hR1 f1
  have hs1 := hc.2.2.2.2.2.1
  have hz1 := hc.2.2.2.2.2.2
  refine q_pop d902_354 rfl ?_
  refine q_aload_n d902_355 rfl ?_
  refine q_aload_n d902_356 rfl ?_
  refine q_iload_n d902_357 rfl ?_
  refine q_iconstN (z := 1) d902_358 ?_
  refine n_iadd d902_359 ?_
  refine n_ialds d902_360 ⟨by decide, hz1⟩ (by omega) (by omega) (hs1 _) ?_
  refine q_aload_n d902_361 rfl ?_
  refine q_iload_n d902_362 rfl ?_
  refine q_iconstN (z := 2) d902_363 ?_
  refine n_iadd d902_364 ?_
  refine n_ialds d902_365 ⟨by decide, hz1⟩ (by omega) (by omega) (hs1 _) ?_
  refine q_aload_n d902_366 rfl ?_
  refine q_iload_n d902_367 rfl ?_
  refine q_iconstN (z := 3) d902_368 ?_
  refine n_iadd d902_369 ?_
  refine n_ialds d902_370 ⟨by decide, hz1⟩ (by omega) (by omega) (hs1 _) ?_
  refine q_v3 d902_371 rfl rfl (xk_136 hc.2.1.1.1) (Nat.le_of_ble_eq_true rfl) (x167 hc.2.1 h.2.2.1 (by have := h.2.2.2.1; omega) (fun M2 hX2 f2 => ?_))
  refine q_pop d902_374 rfl ?_
  refine q_goto 1085 d902_375 (by decide) ?_
  refine n_iinc 7 d902_1085 (by decide) rfl rfl ?_
  refine q_goto 18 d902_1088 (by decide) ?_
  exact nx _ _ _ (hc.y hX2 (Nat.le_add_right _ _) h.2.2.1 f2)
theorem l902_6 {Q : Option Value → zM → Prop} {xs : Nat → Int32} {L : Nat} {M : zM} {D : yD} {κ i : Nat} (hL : L ≤ 3584) (h : LI xs L M D κ i) (hi : 7 * i + 7 ≤ L) (nx : ∀ M' D' κ', LI xs L M' D' κ' (i + 1) → qW (zEv 40) 902 Q 18 [(3, .int (nI (7 * i + 7))), (2, .ref 136), (1, .ref 16), (0, .ref 0)] [] M') : qW (zEv 40) 902 Q 378 [(3, .int (nI (7 * i))), (2, .ref 136), (1, .ref 16), (0, .ref 0)] [] M := by
  have hs := h.2.2.2.2.2.1
  have hz := h.2.2.2.2.2.2
  refine q_aload_n d902_378 rfl ?_
  refine q_aload_n d902_379 rfl ?_
  refine q_iload_n d902_380 rfl ?_
  refine q_iconstN (z := 1) d902_381 ?_
  refine n_iadd d902_382 ?_
  refine n_ialds d902_383 ⟨by decide, hz⟩ (by omega) (by omega) (hs _) ?_
  refine q_aload_n d902_384 rfl ?_
  refine q_iload_n d902_385 rfl ?_
  refine q_iconstN (z := 2) d902_386 ?_
  refine n_iadd d902_387 ?_
  refine n_ialds d902_388 ⟨by decide, hz⟩ (by omega) (by omega) (hs _) ?_
  refine q_v2 d902_389 rfl rfl h.1.1.1.1.1 (Nat.le_of_ble_eq_true rfl) (p59 h.1 h.2.2.1 (fun M1 hR1 f1 => ?_))
  have hc : LC xs L M1 D (sBegin D (xs (7 * i + 1)) (xs (7 * i + 2))).2 κ i := h.c hR1 f1
  have hs1 := hc.2.2.2.2.2.1
  have hz1 := hc.2.2.2.2.2.2
  refine q_pop d902_392 rfl ?_
  refine q_aload_n d902_393 rfl ?_
  refine q_aload_n d902_394 rfl ?_
  refine q_iload_n d902_395 rfl ?_
  refine q_iconstN (z := 1) d902_396 ?_
  refine n_iadd d902_397 ?_
  refine n_ialds d902_398 ⟨by decide, hz1⟩ (by omega) (by omega) (hs1 _) ?_
  refine q_aload_n d902_399 rfl ?_
  refine q_iload_n d902_400 rfl ?_
  refine q_iconstN (z := 2) d902_401 ?_
  refine n_iadd d902_402 ?_
  refine n_ialds d902_403 ⟨by decide, hz1⟩ (by omega) (by omega) (hs1 _) ?_
  refine q_v2 d902_404 rfl rfl (xk_136 hc.2.1.1.1) (Nat.le_of_ble_eq_true rfl) (x168 hc.2.1 h.2.2.1 (by have := h.2.2.2.1; omega) (fun M2 κ2 hk2 hX2 f2 => ?_))
  refine q_pop d902_407 rfl ?_
  refine q_goto 1085 d902_408 (by decide) ?_
  refine n_iinc 7 d902_1085 (by decide) rfl rfl ?_
  refine q_goto 18 d902_1088 (by decide) ?_
  exact nx _ _ _ (hc.y hX2 hk2 (OKD_begin h.2.2.1) f2)
theorem l902_7 {Q : Option Value → zM → Prop} {xs : Nat → Int32} {L : Nat} {M : zM} {D : yD} {κ i : Nat} (hL : L ≤ 3584) (h : LI xs L M D κ i) (hi : 7 * i + 7 ≤ L) (nx : ∀ M' D' κ', LI xs L M' D' κ' (i + 1) → qW (zEv 40) 902 Q 18 [(3, .int (nI (7 * i + 7))), (2, .ref 136), (1, .ref 16), (0, .ref 0)] [] M') : qW (zEv 40) 902 Q 411 [(3, .int (nI (7 * i))), (2, .ref 136), (1, .ref 16), (0, .ref 0)] [] M := by
  have hs := h.2.2.2.2.2.1
  have hz := h.2.2.2.2.2.2
  refine q_aload_n d902_411 rfl ?_
  refine q_aload_n d902_412 rfl ?_
  refine q_iload_n d902_413 rfl ?_
  refine q_iconstN (z := 1) d902_414 ?_
  refine n_iadd d902_415 ?_
  refine n_ialds d902_416 ⟨by decide, hz⟩ (by omega) (by omega) (hs _) ?_
  refine q_aload_n d902_417 rfl ?_
  refine q_iload_n d902_418 rfl ?_
  refine q_iconstN (z := 2) d902_419 ?_
  refine n_iadd d902_420 ?_
  refine n_ialds d902_421 ⟨by decide, hz⟩ (by omega) (by omega) (hs _) ?_
  refine q_aload_n d902_422 rfl ?_
  refine q_iload_n d902_423 rfl ?_
  refine q_iconstN (z := 3) d902_424 ?_
  refine n_iadd d902_425 ?_
  refine n_ialds d902_426 ⟨by decide, hz⟩ (by omega) (by omega) (hs _) ?_
  refine q_aload_n d902_427 rfl ?_
  refine q_iload_n d902_428 rfl ?_
  refine q_iconstN (z := 4) d902_429 ?_
  refine n_iadd d902_430 ?_
  refine n_ialds d902_431 ⟨by decide, hz⟩ (by omega) (by omega) (hs _) ?_
  refine q_v4 d902_432 rfl rfl h.1.1.1.1.1 (Nat.le_of_ble_eq_true rfl) (p66 h.1 h.2.2.1 (fun M1 hR1 f1 => ?_))
  have hc : LC xs L M1 D (sPlan D (xs (7 * i + 1)) (xs (7 * i + 2)) (xs (7 * i + 3)) (xs (7 * i + 4))).2 κ i := h.c hR1 f1
  have hs1 := hc.2.2.2.2.2.1
  have hz1 := hc.2.2.2.2.2.2
  refine q_pop d902_435 rfl ?_
  refine q_aload_n d902_436 rfl ?_
  refine q_aload_n d902_437 rfl ?_
  refine q_iload_n d902_438 rfl ?_
  refine q_iconstN (z := 1) d902_439 ?_
  refine n_iadd d902_440 ?_
  refine n_ialds d902_441 ⟨by decide, hz1⟩ (by omega) (by omega) (hs1 _) ?_
  refine q_aload_n d902_442 rfl ?_
  refine q_iload_n d902_443 rfl ?_
  refine q_iconstN (z := 2) d902_444 ?_
  refine n_iadd d902_445 ?_
  refine n_ialds d902_446 ⟨by decide, hz1⟩ (by omega) (by omega) (hs1 _) ?_
  refine q_aload_n d902_447 rfl ?_
  refine q_iload_n d902_448 rfl ?_
  refine q_iconstN (z := 3) d902_449 ?_
  refine n_iadd d902_450 ?_
  refine n_ialds d902_451 ⟨by decide, hz1⟩ (by omega) (by omega) (hs1 _) ?_
  refine q_aload_n d902_452 rfl ?_
  refine q_iload_n d902_453 rfl ?_
  refine q_iconstN (z := 4) d902_454 ?_
  refine n_iadd d902_455 ?_
  refine n_ialds d902_456 ⟨by decide, hz1⟩ (by omega) (by omega) (hs1 _) ?_
  refine q_v4 d902_457 rfl rfl (xk_136 hc.2.1.1.1) (Nat.le_of_ble_eq_true rfl) (x172 hc.2.1 h.2.2.1 (by have := h.2.2.2.1; omega) (fun M2 κ2 hk2 hX2 f2 => ?_))
  refine q_pop d902_460 rfl ?_
  refine q_goto 1085 d902_461 (by decide) ?_
  refine n_iinc 7 d902_1085 (by decide) rfl rfl ?_
  refine q_goto 18 d902_1088 (by decide) ?_
  exact nx _ _ _ (hc.y hX2 hk2 (OKD_plan h.2.2.1) f2)
theorem l902_8 {Q : Option Value → zM → Prop} {xs : Nat → Int32} {L : Nat} {M : zM} {D : yD} {κ i : Nat} (hL : L ≤ 3584) (h : LI xs L M D κ i) (hi : 7 * i + 7 ≤ L) (nx : ∀ M' D' κ', LI xs L M' D' κ' (i + 1) → qW (zEv 40) 902 Q 18 [(3, .int (nI (7 * i + 7))), (2, .ref 136), (1, .ref 16), (0, .ref 0)] [] M') : qW (zEv 40) 902 Q 464 [(3, .int (nI (7 * i))), (2, .ref 136), (1, .ref 16), (0, .ref 0)] [] M := by
  have hs := h.2.2.2.2.2.1
  have hz := h.2.2.2.2.2.2
  refine q_aload_n d902_464 rfl ?_
  refine q_v0 d902_465 rfl rfl h.1.1.1.1.1 (Nat.le_of_ble_eq_true rfl) (p68 h.1 h.2.2.1 (fun M1 hR1 f1 => ?_))
  have hc : LC xs L M1 D (sTick D).2 κ i := h.c hR1 f1
  have hs1 := hc.2.2.2.2.2.1
  have hz1 := hc.2.2.2.2.2.2
  refine q_pop d902_468 rfl ?_
  refine q_aload_n d902_469 rfl ?_
  refine q_v0 d902_470 rfl rfl (xk_136 hc.2.1.1.1) (Nat.le_of_ble_eq_true rfl) (x174 hc.2.1 h.2.2.1 (by have := h.2.2.2.1; omega) (fun M2 κ2 hk2 hX2 f2 => ?_))
  refine q_pop d902_473 rfl ?_
  refine q_goto 1085 d902_474 (by decide) ?_
  refine n_iinc 7 d902_1085 (by decide) rfl rfl ?_
  refine q_goto 18 d902_1088 (by decide) ?_
  exact nx _ _ _ (hc.y hX2 hk2 (OKD_tick h.2.2.1) f2)
theorem l902_9 {Q : Option Value → zM → Prop} {xs : Nat → Int32} {L : Nat} {M : zM} {D : yD} {κ i : Nat} (hL : L ≤ 3584) (h : LI xs L M D κ i) (hi : 7 * i + 7 ≤ L) (nx : ∀ M' D' κ', LI xs L M' D' κ' (i + 1) → qW (zEv 40) 902 Q 18 [(3, .int (nI (7 * i + 7))), (2, .ref 136), (1, .ref 16), (0, .ref 0)] [] M') : qW (zEv 40) 902 Q 477 [(3, .int (nI (7 * i))), (2, .ref 136), (1, .ref 16), (0, .ref 0)] [] M := by
  have hs := h.2.2.2.2.2.1
  have hz := h.2.2.2.2.2.2
  refine q_aload_n d902_477 rfl ?_
  refine q_aload_n d902_478 rfl ?_
  refine q_iload_n d902_479 rfl ?_
  refine q_iconstN (z := 1) d902_480 ?_
  refine n_iadd d902_481 ?_
  refine n_ialds d902_482 ⟨by decide, hz⟩ (by omega) (by omega) (hs _) ?_
  refine q_aload_n d902_483 rfl ?_
  refine q_iload_n d902_484 rfl ?_
  refine q_iconstN (z := 2) d902_485 ?_
  refine n_iadd d902_486 ?_
  refine n_ialds d902_487 ⟨by decide, hz⟩ (by omega) (by omega) (hs _) ?_
  refine q_v2 d902_488 rfl rfl h.1.1.1.1.1 (Nat.le_of_ble_eq_true rfl) (p87 h.1 h.2.2.1 (fun M1 hR1 f1 => ?_))
  have hc : LC xs L M1 D D κ i := h.c hR1 f1
  have hs1 := hc.2.2.2.2.2.1
  have hz1 := hc.2.2.2.2.2.2
  refine q_pop d902_491 rfl ?_
  refine q_aload_n d902_492 rfl ?_
  refine q_aload_n d902_493 rfl ?_
  refine q_iload_n d902_494 rfl ?_
  refine q_iconstN (z := 1) d902_495 ?_
  refine n_iadd d902_496 ?_
  refine n_ialds d902_497 ⟨by decide, hz1⟩ (by omega) (by omega) (hs1 _) ?_
  refine q_aload_n d902_498 rfl ?_
  refine q_iload_n d902_499 rfl ?_
  refine q_iconstN (z := 2) d902_500 ?_
  refine n_iadd d902_501 ?_
  refine n_ialds d902_502 ⟨by decide, hz1⟩ (by omega) (by omega) (hs1 _) ?_
  refine q_v2 d902_503 rfl rfl (xk_136 hc.2.1.1.1) (Nat.le_of_ble_eq_true rfl) (x186 hc.2.1 h.2.2.1 (by have := h.2.2.2.1; omega) (fun M2 hX2 f2 => ?_))
  refine q_pop d902_506 rfl ?_
  refine q_goto 1085 d902_507 (by decide) ?_
  refine n_iinc 7 d902_1085 (by decide) rfl rfl ?_
  refine q_goto 18 d902_1088 (by decide) ?_
  exact nx _ _ _ (hc.y hX2 (Nat.le_add_right _ _) h.2.2.1 f2)
theorem l902_10 {Q : Option Value → zM → Prop} {xs : Nat → Int32} {L : Nat} {M : zM} {D : yD} {κ i : Nat} (hL : L ≤ 3584) (h : LI xs L M D κ i) (hi : 7 * i + 7 ≤ L) (nx : ∀ M' D' κ', LI xs L M' D' κ' (i + 1) → qW (zEv 40) 902 Q 18 [(3, .int (nI (7 * i + 7))), (2, .ref 136), (1, .ref 16), (0, .ref 0)] [] M') : qW (zEv 40) 902 Q 510 [(3, .int (nI (7 * i))), (2, .ref 136), (1, .ref 16), (0, .ref 0)] [] M := by
  have hs := h.2.2.2.2.2.1
  have hz := h.2.2.2.2.2.2
  refine q_aload_n d902_510 rfl ?_
  refine q_aload_n d902_511 rfl ?_
  refine q_iload_n d902_512 rfl ?_
  refine q_iconstN (z := 1) d902_513 ?_
  refine n_iadd d902_514 ?_
  refine n_ialds d902_515 ⟨by decide, hz⟩ (by omega) (by omega) (hs _) ?_
  refine q_aload_n d902_516 rfl ?_
  refine q_iload_n d902_517 rfl ?_
  refine q_iconstN (z := 2) d902_518 ?_
  refine n_iadd d902_519 ?_
  refine n_ialds d902_520 ⟨by decide, hz⟩ (by omega) (by omega) (hs _) ?_
  refine q_v2 d902_521 rfl rfl h.1.1.1.1.1 (Nat.le_of_ble_eq_true rfl) (p89 h.1 h.2.2.1 (fun M1 hR1 f1 => ?_))
  have hc : LC xs L M1 D D κ i := h.c hR1 f1
  have hs1 := hc.2.2.2.2.2.1
  have hz1 := hc.2.2.2.2.2.2
  refine q_pop d902_524 rfl ?_
  refine q_aload_n d902_525 rfl ?_
  refine q_aload_n d902_526 rfl ?_
  refine q_iload_n d902_527 rfl ?_
  refine q_iconstN (z := 1) d902_528 ?_
  refine n_iadd d902_529 ?_
  refine n_ialds d902_530 ⟨by decide, hz1⟩ (by omega) (by omega) (hs1 _) ?_
  refine q_aload_n d902_531 rfl ?_
  refine q_iload_n d902_532 rfl ?_
  refine q_iconstN (z := 2) d902_533 ?_
  refine n_iadd d902_534 ?_
  refine n_ialds d902_535 ⟨by decide, hz1⟩ (by omega) (by omega) (hs1 _) ?_
  refine q_v2 d902_536 rfl rfl (xk_136 hc.2.1.1.1) (Nat.le_of_ble_eq_true rfl) (x187 hc.2.1 h.2.2.1 (by have := h.2.2.2.1; omega) (fun M2 hX2 f2 => ?_))
  refine q_pop d902_539 rfl ?_
  refine q_goto 1085 d902_540 (by decide) ?_
  refine n_iinc 7 d902_1085 (by decide) rfl rfl ?_
  refine q_goto 18 d902_1088 (by decide) ?_
  exact nx _ _ _ (hc.y hX2 (Nat.le_add_right _ _) h.2.2.1 f2)
theorem l902_11 {Q : Option Value → zM → Prop} {xs : Nat → Int32} {L : Nat} {M : zM} {D : yD} {κ i : Nat} (hL : L ≤ 3584) (h : LI xs L M D κ i) (hi : 7 * i + 7 ≤ L) (nx : ∀ M' D' κ', LI xs L M' D' κ' (i + 1) → qW (zEv 40) 902 Q 18 [(3, .int (nI (7 * i + 7))), (2, .ref 136), (1, .ref 16), (0, .ref 0)] [] M') : qW (zEv 40) 902 Q 543 [(3, .int (nI (7 * i))), (2, .ref 136), (1, .ref 16), (0, .ref 0)] [] M := by
  have hs := h.2.2.2.2.2.1
  have hz := h.2.2.2.2.2.2
  refine q_aload_n d902_543 rfl ?_
  refine q_aload_n d902_544 rfl ?_
  refine q_iload_n d902_545 rfl ?_
  refine q_iconstN (z := 1) d902_546 ?_
  refine n_iadd d902_547 ?_
  refine n_ialds d902_548 ⟨by decide, hz⟩ (by omega) (by omega) (hs _) ?_
  refine q_aload_n d902_549 rfl ?_
  refine q_iload_n d902_550 rfl ?_
  refine q_iconstN (z := 2) d902_551 ?_
  refine n_iadd d902_552 ?_
  refine n_ialds d902_553 ⟨by decide, hz⟩ (by omega) (by omega) (hs _) ?_
  refine q_v2 d902_554 rfl rfl h.1.1.1.1.1 (Nat.le_of_ble_eq_true rfl) (p90 h.1 h.2.2.1 (fun M1 hR1 f1 => ?_))
  have hc : LC xs L M1 D (sSet D (xs (7 * i + 1)) (xs (7 * i + 2))).2 κ i := h.c hR1 f1
  have hs1 := hc.2.2.2.2.2.1
  have hz1 := hc.2.2.2.2.2.2
  refine q_pop d902_557 rfl ?_
  refine q_aload_n d902_558 rfl ?_
  refine q_aload_n d902_559 rfl ?_
  refine q_iload_n d902_560 rfl ?_
  refine q_iconstN (z := 1) d902_561 ?_
  refine n_iadd d902_562 ?_
  refine n_ialds d902_563 ⟨by decide, hz1⟩ (by omega) (by omega) (hs1 _) ?_
  refine q_aload_n d902_564 rfl ?_
  refine q_iload_n d902_565 rfl ?_
  refine q_iconstN (z := 2) d902_566 ?_
  refine n_iadd d902_567 ?_
  refine n_ialds d902_568 ⟨by decide, hz1⟩ (by omega) (by omega) (hs1 _) ?_
  refine q_v2 d902_569 rfl rfl (xk_136 hc.2.1.1.1) (Nat.le_of_ble_eq_true rfl) (x188 hc.2.1 h.2.2.1 (by have := h.2.2.2.1; omega) (fun M2 κ2 hk2 hX2 f2 => ?_))
  refine q_pop d902_572 rfl ?_
  refine q_goto 1085 d902_573 (by decide) ?_
  refine n_iinc 7 d902_1085 (by decide) rfl rfl ?_
  refine q_goto 18 d902_1088 (by decide) ?_
  exact nx _ _ _ (hc.y hX2 hk2 (OKD_set h.2.2.1) f2)
theorem l902_12 {Q : Option Value → zM → Prop} {xs : Nat → Int32} {L : Nat} {M : zM} {D : yD} {κ i : Nat} (hL : L ≤ 3584) (h : LI xs L M D κ i) (hi : 7 * i + 7 ≤ L) (nx : ∀ M' D' κ', LI xs L M' D' κ' (i + 1) → qW (zEv 40) 902 Q 18 [(3, .int (nI (7 * i + 7))), (2, .ref 136), (1, .ref 16), (0, .ref 0)] [] M') : qW (zEv 40) 902 Q 576 [(3, .int (nI (7 * i))), (2, .ref 136), (1, .ref 16), (0, .ref 0)] [] M := by
  have hs := h.2.2.2.2.2.1
  have hz := h.2.2.2.2.2.2
  refine q_aload_n d902_576 rfl ?_
  refine q_aload_n d902_577 rfl ?_
  refine q_iload_n d902_578 rfl ?_
  refine q_iconstN (z := 1) d902_579 ?_
  refine n_iadd d902_580 ?_
  refine n_ialds d902_581 ⟨by decide, hz⟩ (by omega) (by omega) (hs _) ?_
  refine q_aload_n d902_582 rfl ?_
  refine q_iload_n d902_583 rfl ?_
  refine q_iconstN (z := 2) d902_584 ?_
  refine n_iadd d902_585 ?_
  refine n_ialds d902_586 ⟨by decide, hz⟩ (by omega) (by omega) (hs _) ?_
  refine q_v2 d902_587 rfl rfl h.1.1.1.1.1 (Nat.le_of_ble_eq_true rfl) (p91 h.1 h.2.2.1 (fun M1 hR1 f1 => ?_))
  have hc : LC xs L M1 D D κ i := h.c hR1 f1
  have hs1 := hc.2.2.2.2.2.1
  have hz1 := hc.2.2.2.2.2.2
  refine q_pop d902_590 rfl ?_
  refine q_aload_n d902_591 rfl ?_
  refine q_aload_n d902_592 rfl ?_
  refine q_iload_n d902_593 rfl ?_
  refine q_iconstN (z := 1) d902_594 ?_
  refine n_iadd d902_595 ?_
  refine n_ialds d902_596 ⟨by decide, hz1⟩ (by omega) (by omega) (hs1 _) ?_
  refine q_aload_n d902_597 rfl ?_
  refine q_iload_n d902_598 rfl ?_
  refine q_iconstN (z := 2) d902_599 ?_
  refine n_iadd d902_600 ?_
  refine n_ialds d902_601 ⟨by decide, hz1⟩ (by omega) (by omega) (hs1 _) ?_
  refine q_v2 d902_602 rfl rfl (xk_136 hc.2.1.1.1) (Nat.le_of_ble_eq_true rfl) (x190 hc.2.1 h.2.2.1 (by have := h.2.2.2.1; omega) (fun M2 hX2 f2 => ?_))
  refine q_pop d902_605 rfl ?_
  refine q_goto 1085 d902_606 (by decide) ?_
  refine n_iinc 7 d902_1085 (by decide) rfl rfl ?_
  refine q_goto 18 d902_1088 (by decide) ?_
  exact nx _ _ _ (hc.y hX2 (Nat.le_add_right _ _) h.2.2.1 f2)
theorem l902_13 {Q : Option Value → zM → Prop} {xs : Nat → Int32} {L : Nat} {M : zM} {D : yD} {κ i : Nat} (hL : L ≤ 3584) (h : LI xs L M D κ i) (hi : 7 * i + 7 ≤ L) (nx : ∀ M' D' κ', LI xs L M' D' κ' (i + 1) → qW (zEv 40) 902 Q 18 [(3, .int (nI (7 * i + 7))), (2, .ref 136), (1, .ref 16), (0, .ref 0)] [] M') : qW (zEv 40) 902 Q 609 [(3, .int (nI (7 * i))), (2, .ref 136), (1, .ref 16), (0, .ref 0)] [] M := by
  have hs := h.2.2.2.2.2.1
  have hz := h.2.2.2.2.2.2
  refine q_aload_n d902_609 rfl ?_
  refine q_aload_n d902_610 rfl ?_
  refine q_iload_n d902_611 rfl ?_
  refine q_iconstN (z := 1) d902_612 ?_
  refine n_iadd d902_613 ?_
  refine n_ialds d902_614 ⟨by decide, hz⟩ (by omega) (by omega) (hs _) ?_
  refine q_aload_n d902_615 rfl ?_
  refine q_iload_n d902_616 rfl ?_
  refine q_iconstN (z := 2) d902_617 ?_
  refine n_iadd d902_618 ?_
  refine n_ialds d902_619 ⟨by decide, hz⟩ (by omega) (by omega) (hs _) ?_
  refine q_v2 d902_620 rfl rfl h.1.1.1.1.1 (Nat.le_of_ble_eq_true rfl) (p92 h.1 h.2.2.1 (fun M1 hR1 f1 => ?_))
  have hc : LC xs L M1 D D κ i := h.c hR1 f1
  have hs1 := hc.2.2.2.2.2.1
  have hz1 := hc.2.2.2.2.2.2
  refine q_pop d902_623 rfl ?_
  refine q_aload_n d902_624 rfl ?_
  refine q_aload_n d902_625 rfl ?_
  refine q_iload_n d902_626 rfl ?_
  refine q_iconstN (z := 1) d902_627 ?_
  refine n_iadd d902_628 ?_
  refine n_ialds d902_629 ⟨by decide, hz1⟩ (by omega) (by omega) (hs1 _) ?_
  refine q_aload_n d902_630 rfl ?_
  refine q_iload_n d902_631 rfl ?_
  refine q_iconstN (z := 2) d902_632 ?_
  refine n_iadd d902_633 ?_
  refine n_ialds d902_634 ⟨by decide, hz1⟩ (by omega) (by omega) (hs1 _) ?_
  refine q_v2 d902_635 rfl rfl (xk_136 hc.2.1.1.1) (Nat.le_of_ble_eq_true rfl) (x191 hc.2.1 h.2.2.1 (by have := h.2.2.2.1; omega) (fun M2 hX2 f2 => ?_))
  refine q_pop d902_638 rfl ?_
  refine q_goto 1085 d902_639 (by decide) ?_
  refine n_iinc 7 d902_1085 (by decide) rfl rfl ?_
  refine q_goto 18 d902_1088 (by decide) ?_
  exact nx _ _ _ (hc.y hX2 (Nat.le_add_right _ _) h.2.2.1 f2)
theorem l902_14 {Q : Option Value → zM → Prop} {xs : Nat → Int32} {L : Nat} {M : zM} {D : yD} {κ i : Nat} (hL : L ≤ 3584) (h : LI xs L M D κ i) (hi : 7 * i + 7 ≤ L) (nx : ∀ M' D' κ', LI xs L M' D' κ' (i + 1) → qW (zEv 40) 902 Q 18 [(3, .int (nI (7 * i + 7))), (2, .ref 136), (1, .ref 16), (0, .ref 0)] [] M') : qW (zEv 40) 902 Q 642 [(3, .int (nI (7 * i))), (2, .ref 136), (1, .ref 16), (0, .ref 0)] [] M := by
  have hs := h.2.2.2.2.2.1
  have hz := h.2.2.2.2.2.2
  refine q_aload_n d902_642 rfl ?_
  refine q_aload_n d902_643 rfl ?_
  refine q_iload_n d902_644 rfl ?_
  refine q_iconstN (z := 1) d902_645 ?_
  refine n_iadd d902_646 ?_
  refine n_ialds d902_647 ⟨by decide, hz⟩ (by omega) (by omega) (hs _) ?_
  refine q_v1 d902_648 rfl rfl h.1.1.1.1.1 (Nat.le_of_ble_eq_true rfl) (p99 h.1 h.2.2.1 (fun M1 hR1 f1 => ?_))
  have hc : LC xs L M1 D (sBreaks D (xs (7 * i + 1))).2 κ i := h.c hR1 f1
  have hs1 := hc.2.2.2.2.2.1
  have hz1 := hc.2.2.2.2.2.2
  refine q_pop d902_651 rfl ?_
  refine q_aload_n d902_652 rfl ?_
  refine q_aload_n d902_653 rfl ?_
  refine q_iload_n d902_654 rfl ?_
  refine q_iconstN (z := 1) d902_655 ?_
  refine n_iadd d902_656 ?_
  refine n_ialds d902_657 ⟨by decide, hz1⟩ (by omega) (by omega) (hs1 _) ?_
  refine q_v1 d902_658 rfl rfl (xk_136 hc.2.1.1.1) (Nat.le_of_ble_eq_true rfl) (x196 hc.2.1 h.2.2.1 (by have := h.2.2.2.1; omega) (fun M2 κ2 hk2 hX2 f2 => ?_))
  refine q_pop d902_661 rfl ?_
  refine q_goto 1085 d902_662 (by decide) ?_
  refine n_iinc 7 d902_1085 (by decide) rfl rfl ?_
  refine q_goto 18 d902_1088 (by decide) ?_
  exact nx _ _ _ (hc.y hX2 hk2 (OKD_breaks h.2.2.1) f2)
theorem l902_15 {Q : Option Value → zM → Prop} {xs : Nat → Int32} {L : Nat} {M : zM} {D : yD} {κ i : Nat} (hL : L ≤ 3584) (h : LI xs L M D κ i) (hi : 7 * i + 7 ≤ L) (nx : ∀ M' D' κ', LI xs L M' D' κ' (i + 1) → qW (zEv 40) 902 Q 18 [(3, .int (nI (7 * i + 7))), (2, .ref 136), (1, .ref 16), (0, .ref 0)] [] M') : qW (zEv 40) 902 Q 665 [(3, .int (nI (7 * i))), (2, .ref 136), (1, .ref 16), (0, .ref 0)] [] M := by
  have hs := h.2.2.2.2.2.1
  have hz := h.2.2.2.2.2.2
  refine q_aload_n d902_665 rfl ?_
  refine q_aload_n d902_666 rfl ?_
  refine q_iload_n d902_667 rfl ?_
  refine q_iconstN (z := 1) d902_668 ?_
  refine n_iadd d902_669 ?_
  refine n_ialds d902_670 ⟨by decide, hz⟩ (by omega) (by omega) (hs _) ?_
  refine q_aload_n d902_671 rfl ?_
  refine q_iload_n d902_672 rfl ?_
  refine q_iconstN (z := 2) d902_673 ?_
  refine n_iadd d902_674 ?_
  refine n_ialds d902_675 ⟨by decide, hz⟩ (by omega) (by omega) (hs _) ?_
  refine q_v2 d902_676 rfl rfl h.1.1.1.1.1 (Nat.le_of_ble_eq_true rfl) (p100 h.1 h.2.2.1 (fun M1 hR1 f1 => ?_))
  have hc : LC xs L M1 D D κ i := h.c hR1 f1
  have hs1 := hc.2.2.2.2.2.1
  have hz1 := hc.2.2.2.2.2.2
  refine q_pop d902_679 rfl ?_
  refine q_aload_n d902_680 rfl ?_
  refine q_aload_n d902_681 rfl ?_
  refine q_iload_n d902_682 rfl ?_
  refine q_iconstN (z := 1) d902_683 ?_
  refine n_iadd d902_684 ?_
  refine n_ialds d902_685 ⟨by decide, hz1⟩ (by omega) (by omega) (hs1 _) ?_
  refine q_aload_n d902_686 rfl ?_
  refine q_iload_n d902_687 rfl ?_
  refine q_iconstN (z := 2) d902_688 ?_
  refine n_iadd d902_689 ?_
  refine n_ialds d902_690 ⟨by decide, hz1⟩ (by omega) (by omega) (hs1 _) ?_
  refine q_v2 d902_691 rfl rfl (xk_136 hc.2.1.1.1) (Nat.le_of_ble_eq_true rfl) (x197 hc.2.1 h.2.2.1 (by have := h.2.2.2.1; omega) (fun M2 hX2 f2 => ?_))
  refine q_pop d902_694 rfl ?_
  refine q_goto 1085 d902_695 (by decide) ?_
  refine n_iinc 7 d902_1085 (by decide) rfl rfl ?_
  refine q_goto 18 d902_1088 (by decide) ?_
  exact nx _ _ _ (hc.y hX2 (Nat.le_add_right _ _) h.2.2.1 f2)
theorem l902_16 {Q : Option Value → zM → Prop} {xs : Nat → Int32} {L : Nat} {M : zM} {D : yD} {κ i : Nat} (hL : L ≤ 3584) (h : LI xs L M D κ i) (hi : 7 * i + 7 ≤ L) (nx : ∀ M' D' κ', LI xs L M' D' κ' (i + 1) → qW (zEv 40) 902 Q 18 [(3, .int (nI (7 * i + 7))), (2, .ref 136), (1, .ref 16), (0, .ref 0)] [] M') : qW (zEv 40) 902 Q 698 [(3, .int (nI (7 * i))), (2, .ref 136), (1, .ref 16), (0, .ref 0)] [] M := by
  have hs := h.2.2.2.2.2.1
  have hz := h.2.2.2.2.2.2
  refine q_aload_n d902_698 rfl ?_
  refine q_aload_n d902_699 rfl ?_
  refine q_iload_n d902_700 rfl ?_
  refine q_iconstN (z := 1) d902_701 ?_
  refine n_iadd d902_702 ?_
  refine n_ialds d902_703 ⟨by decide, hz⟩ (by omega) (by omega) (hs _) ?_
  refine q_aload_n d902_704 rfl ?_
  refine q_iload_n d902_705 rfl ?_
  refine q_iconstN (z := 2) d902_706 ?_
  refine n_iadd d902_707 ?_
  refine n_ialds d902_708 ⟨by decide, hz⟩ (by omega) (by omega) (hs _) ?_
  refine q_v2 d902_709 rfl rfl h.1.1.1.1.1 (Nat.le_of_ble_eq_true rfl) (p103 h.1 h.2.2.1 (fun M1 hR1 f1 => ?_))
  have hc : LC xs L M1 D D κ i := h.c hR1 f1
  have hs1 := hc.2.2.2.2.2.1
  have hz1 := hc.2.2.2.2.2.2
  refine q_pop d902_712 rfl ?_
  refine q_aload_n d902_713 rfl ?_
  refine q_aload_n d902_714 rfl ?_
  refine q_iload_n d902_715 rfl ?_
  refine q_iconstN (z := 1) d902_716 ?_
  refine n_iadd d902_717 ?_
  refine n_ialds d902_718 ⟨by decide, hz1⟩ (by omega) (by omega) (hs1 _) ?_
  refine q_aload_n d902_719 rfl ?_
  refine q_iload_n d902_720 rfl ?_
  refine q_iconstN (z := 2) d902_721 ?_
  refine n_iadd d902_722 ?_
  refine n_ialds d902_723 ⟨by decide, hz1⟩ (by omega) (by omega) (hs1 _) ?_
  refine q_v2 d902_724 rfl rfl (xk_136 hc.2.1.1.1) (Nat.le_of_ble_eq_true rfl) (x200 hc.2.1 h.2.2.1 (by have := h.2.2.2.1; omega) (fun M2 hX2 f2 => ?_))
  refine q_pop d902_727 rfl ?_
  refine q_goto 1085 d902_728 (by decide) ?_
  refine n_iinc 7 d902_1085 (by decide) rfl rfl ?_
  refine q_goto 18 d902_1088 (by decide) ?_
  exact nx _ _ _ (hc.y hX2 (Nat.le_add_right _ _) h.2.2.1 f2)
theorem l902_17 {Q : Option Value → zM → Prop} {xs : Nat → Int32} {L : Nat} {M : zM} {D : yD} {κ i : Nat} (hL : L ≤ 3584) (h : LI xs L M D κ i) (hi : 7 * i + 7 ≤ L) (nx : ∀ M' D' κ', LI xs L M' D' κ' (i + 1) → qW (zEv 40) 902 Q 18 [(3, .int (nI (7 * i + 7))), (2, .ref 136), (1, .ref 16), (0, .ref 0)] [] M') : qW (zEv 40) 902 Q 731 [(3, .int (nI (7 * i))), (2, .ref 136), (1, .ref 16), (0, .ref 0)] [] M := by
  have hs := h.2.2.2.2.2.1
  have hz := h.2.2.2.2.2.2
  refine q_aload_n d902_731 rfl ?_
  refine q_aload_n d902_732 rfl ?_
  refine q_iload_n d902_733 rfl ?_
  refine q_iconstN (z := 1) d902_734 ?_
  refine n_iadd d902_735 ?_
  refine n_ialds d902_736 ⟨by decide, hz⟩ (by omega) (by omega) (hs _) ?_
  refine q_aload_n d902_737 rfl ?_
  refine q_iload_n d902_738 rfl ?_
  refine q_iconstN (z := 2) d902_739 ?_
  refine n_iadd d902_740 ?_
  refine n_ialds d902_741 ⟨by decide, hz⟩ (by omega) (by omega) (hs _) ?_
  refine q_v2 d902_742 rfl rfl h.1.1.1.1.1 (Nat.le_of_ble_eq_true rfl) (p106 h.1 h.2.2.1 (fun M1 hR1 f1 => ?_))
  have hc : LC xs L M1 D D κ i := h.c hR1 f1
  have hs1 := hc.2.2.2.2.2.1
  have hz1 := hc.2.2.2.2.2.2
  refine q_pop d902_745 rfl ?_
  refine q_aload_n d902_746 rfl ?_
  refine q_aload_n d902_747 rfl ?_
  refine q_iload_n d902_748 rfl ?_
  refine q_iconstN (z := 1) d902_749 ?_
  refine n_iadd d902_750 ?_
  refine n_ialds d902_751 ⟨by decide, hz1⟩ (by omega) (by omega) (hs1 _) ?_
  refine q_aload_n d902_752 rfl ?_
  refine q_iload_n d902_753 rfl ?_
  refine q_iconstN (z := 2) d902_754 ?_
  refine n_iadd d902_755 ?_
  refine n_ialds d902_756 ⟨by decide, hz1⟩ (by omega) (by omega) (hs1 _) ?_
  refine q_v2 d902_757 rfl rfl (xk_136 hc.2.1.1.1) (Nat.le_of_ble_eq_true rfl) (x201 hc.2.1 h.2.2.1 (by have := h.2.2.2.1; omega) (fun M2 hX2 f2 => ?_))
  refine q_pop d902_760 rfl ?_
  refine q_goto 1085 d902_761 (by decide) ?_
  refine n_iinc 7 d902_1085 (by decide) rfl rfl ?_
  refine q_goto 18 d902_1088 (by decide) ?_
  exact nx _ _ _ (hc.y hX2 (Nat.le_add_right _ _) h.2.2.1 f2)
theorem l902_18 {Q : Option Value → zM → Prop} {xs : Nat → Int32} {L : Nat} {M : zM} {D : yD} {κ i : Nat} (hL : L ≤ 3584) (h : LI xs L M D κ i) (hi : 7 * i + 7 ≤ L) (nx : ∀ M' D' κ', LI xs L M' D' κ' (i + 1) → qW (zEv 40) 902 Q 18 [(3, .int (nI (7 * i + 7))), (2, .ref 136), (1, .ref 16), (0, .ref 0)] [] M') : qW (zEv 40) 902 Q 764 [(3, .int (nI (7 * i))), (2, .ref 136), (1, .ref 16), (0, .ref 0)] [] M := by
  have hs := h.2.2.2.2.2.1
  have hz := h.2.2.2.2.2.2
  refine q_aload_n d902_764 rfl ?_
  refine q_aload_n d902_765 rfl ?_
  refine q_iload_n d902_766 rfl ?_
  refine q_iconstN (z := 1) d902_767 ?_
  refine n_iadd d902_768 ?_
  refine n_ialds d902_769 ⟨by decide, hz⟩ (by omega) (by omega) (hs _) ?_
  refine q_aload_n d902_770 rfl ?_
  refine q_iload_n d902_771 rfl ?_
  refine q_iconstN (z := 2) d902_772 ?_
  refine n_iadd d902_773 ?_
  refine n_ialds d902_774 ⟨by decide, hz⟩ (by omega) (by omega) (hs _) ?_
  refine q_aload_n d902_775 rfl ?_
  refine q_iload_n d902_776 rfl ?_
  refine q_iconstN (z := 3) d902_777 ?_
  refine n_iadd d902_778 ?_
  refine n_ialds d902_779 ⟨by decide, hz⟩ (by omega) (by omega) (hs _) ?_
  refine q_aload_n d902_780 rfl ?_
  refine q_iload_n d902_781 rfl ?_
  refine q_iconstN (z := 4) d902_782 ?_
  refine n_iadd d902_783 ?_
  refine n_ialds d902_784 ⟨by decide, hz⟩ (by omega) (by omega) (hs _) ?_
  refine q_v4 d902_785 rfl rfl h.1.1.1.1.1 (Nat.le_of_ble_eq_true rfl) (p110 h.1 h.2.2.1 (fun M1 hR1 f1 => ?_))
  have hc : LC xs L M1 D D κ i := h.c hR1 f1
  have hs1 := hc.2.2.2.2.2.1
  have hz1 := hc.2.2.2.2.2.2
  refine q_pop d902_788 rfl ?_
  refine q_aload_n d902_789 rfl ?_
  refine q_aload_n d902_790 rfl ?_
  refine q_iload_n d902_791 rfl ?_
  refine q_iconstN (z := 1) d902_792 ?_
  refine n_iadd d902_793 ?_
  refine n_ialds d902_794 ⟨by decide, hz1⟩ (by omega) (by omega) (hs1 _) ?_
  refine q_aload_n d902_795 rfl ?_
  refine q_iload_n d902_796 rfl ?_
  refine q_iconstN (z := 2) d902_797 ?_
  refine n_iadd d902_798 ?_
  refine n_ialds d902_799 ⟨by decide, hz1⟩ (by omega) (by omega) (hs1 _) ?_
  refine q_aload_n d902_800 rfl ?_
  refine q_iload_n d902_801 rfl ?_
  refine q_iconstN (z := 3) d902_802 ?_
  refine n_iadd d902_803 ?_
  refine n_ialds d902_804 ⟨by decide, hz1⟩ (by omega) (by omega) (hs1 _) ?_
  refine q_aload_n d902_805 rfl ?_
  refine q_iload_n d902_806 rfl ?_
  refine q_iconstN (z := 4) d902_807 ?_
  refine n_iadd d902_808 ?_
  refine n_ialds d902_809 ⟨by decide, hz1⟩ (by omega) (by omega) (hs1 _) ?_
  refine q_v4 d902_810 rfl rfl (xk_136 hc.2.1.1.1) (Nat.le_of_ble_eq_true rfl) (x204 hc.2.1 h.2.2.1 (by have := h.2.2.2.1; omega) (fun M2 hX2 f2 => ?_))
  refine q_pop d902_813 rfl ?_
  refine q_goto 1085 d902_814 (by decide) ?_
  refine n_iinc 7 d902_1085 (by decide) rfl rfl ?_
  refine q_goto 18 d902_1088 (by decide) ?_
  exact nx _ _ _ (hc.y hX2 (Nat.le_add_right _ _) h.2.2.1 f2)
theorem l902_19 {Q : Option Value → zM → Prop} {xs : Nat → Int32} {L : Nat} {M : zM} {D : yD} {κ i : Nat} (hL : L ≤ 3584) (h : LI xs L M D κ i) (hi : 7 * i + 7 ≤ L) (nx : ∀ M' D' κ', LI xs L M' D' κ' (i + 1) → qW (zEv 40) 902 Q 18 [(3, .int (nI (7 * i + 7))), (2, .ref 136), (1, .ref 16), (0, .ref 0)] [] M') : qW (zEv 40) 902 Q 817 [(3, .int (nI (7 * i))), (2, .ref 136), (1, .ref 16), (0, .ref 0)] [] M := by
  have hs := h.2.2.2.2.2.1
  have hz := h.2.2.2.2.2.2
  refine q_aload_n d902_817 rfl ?_
  refine q_aload_n d902_818 rfl ?_
  refine q_iload_n d902_819 rfl ?_
  refine q_iconstN (z := 1) d902_820 ?_
  refine n_iadd d902_821 ?_
  refine n_ialds d902_822 ⟨by decide, hz⟩ (by omega) (by omega) (hs _) ?_
  refine q_aload_n d902_823 rfl ?_
  refine q_iload_n d902_824 rfl ?_
  refine q_iconstN (z := 2) d902_825 ?_
  refine n_iadd d902_826 ?_
  refine n_ialds d902_827 ⟨by decide, hz⟩ (by omega) (by omega) (hs _) ?_
  refine q_aload_n d902_828 rfl ?_
  refine q_iload_n d902_829 rfl ?_
  refine q_iconstN (z := 3) d902_830 ?_
  refine n_iadd d902_831 ?_
  refine n_ialds d902_832 ⟨by decide, hz⟩ (by omega) (by omega) (hs _) ?_
  refine q_aload_n d902_833 rfl ?_
  refine q_iload_n d902_834 rfl ?_
  refine q_iconstN (z := 4) d902_835 ?_
  refine n_iadd d902_836 ?_
  refine n_ialds d902_837 ⟨by decide, hz⟩ (by omega) (by omega) (hs _) ?_
  refine q_v4 d902_838 rfl rfl h.1.1.1.1.1 (Nat.le_of_ble_eq_true rfl) (p112 h.1 h.2.2.1 (fun v1 M1 hR1 f1 => ?_))
  have hc : LC xs L M1 D D κ i := h.c hR1 f1
  have hs1 := hc.2.2.2.2.2.1
  have hz1 := hc.2.2.2.2.2.2
  refine q_pop d902_841 rfl ?_
  refine q_aload_n d902_842 rfl ?_
  refine q_aload_n d902_843 rfl ?_
  refine q_iload_n d902_844 rfl ?_
  refine q_iconstN (z := 1) d902_845 ?_
  refine n_iadd d902_846 ?_
  refine n_ialds d902_847 ⟨by decide, hz1⟩ (by omega) (by omega) (hs1 _) ?_
  refine q_aload_n d902_848 rfl ?_
  refine q_iload_n d902_849 rfl ?_
  refine q_iconstN (z := 2) d902_850 ?_
  refine n_iadd d902_851 ?_
  refine n_ialds d902_852 ⟨by decide, hz1⟩ (by omega) (by omega) (hs1 _) ?_
  refine q_aload_n d902_853 rfl ?_
  refine q_iload_n d902_854 rfl ?_
  refine q_iconstN (z := 3) d902_855 ?_
  refine n_iadd d902_856 ?_
  refine n_ialds d902_857 ⟨by decide, hz1⟩ (by omega) (by omega) (hs1 _) ?_
  refine q_aload_n d902_858 rfl ?_
  refine q_iload_n d902_859 rfl ?_
  refine q_iconstN (z := 4) d902_860 ?_
  refine n_iadd d902_861 ?_
  refine n_ialds d902_862 ⟨by decide, hz1⟩ (by omega) (by omega) (hs1 _) ?_
  refine q_v4 d902_863 rfl rfl (xk_136 hc.2.1.1.1) (Nat.le_of_ble_eq_true rfl) (x206 hc.2.1 h.2.2.1 (by have := h.2.2.2.1; omega) (fun v2 M2 hX2 f2 => ?_))
  refine q_pop d902_866 rfl ?_
  refine q_goto 1085 d902_867 (by decide) ?_
  refine n_iinc 7 d902_1085 (by decide) rfl rfl ?_
  refine q_goto 18 d902_1088 (by decide) ?_
  exact nx _ _ _ (hc.y hX2 (Nat.le_add_right _ _) h.2.2.1 f2)
theorem l902_20 {Q : Option Value → zM → Prop} {xs : Nat → Int32} {L : Nat} {M : zM} {D : yD} {κ i : Nat} (hL : L ≤ 3584) (h : LI xs L M D κ i) (hi : 7 * i + 7 ≤ L) (nx : ∀ M' D' κ', LI xs L M' D' κ' (i + 1) → qW (zEv 40) 902 Q 18 [(3, .int (nI (7 * i + 7))), (2, .ref 136), (1, .ref 16), (0, .ref 0)] [] M') : qW (zEv 40) 902 Q 870 [(3, .int (nI (7 * i))), (2, .ref 136), (1, .ref 16), (0, .ref 0)] [] M := by
  have hs := h.2.2.2.2.2.1
  have hz := h.2.2.2.2.2.2
  refine q_aload_n d902_870 rfl ?_
  refine q_aload_n d902_871 rfl ?_
  refine q_iload_n d902_872 rfl ?_
  refine q_iconstN (z := 1) d902_873 ?_
  refine n_iadd d902_874 ?_
  refine n_ialds d902_875 ⟨by decide, hz⟩ (by omega) (by omega) (hs _) ?_
  refine q_aload_n d902_876 rfl ?_
  refine q_iload_n d902_877 rfl ?_
  refine q_iconstN (z := 2) d902_878 ?_
  refine n_iadd d902_879 ?_
  refine n_ialds d902_880 ⟨by decide, hz⟩ (by omega) (by omega) (hs _) ?_
  refine q_aload_n d902_881 rfl ?_
  refine q_iload_n d902_882 rfl ?_
  refine q_iconstN (z := 3) d902_883 ?_
  refine n_iadd d902_884 ?_
  refine n_ialds d902_885 ⟨by decide, hz⟩ (by omega) (by omega) (hs _) ?_
  refine q_v3 d902_886 rfl rfl h.1.1.1.1.1 (Nat.le_of_ble_eq_true rfl) (p120 h.1 h.2.2.1 (fun M1 hR1 f1 => ?_))
  have hc : LC xs L M1 D (sFilm D (xs (7 * i + 1)) (xs (7 * i + 2)) (xs (7 * i + 3))).2 κ i := h.c hR1 f1
  have hs1 := hc.2.2.2.2.2.1
  have hz1 := hc.2.2.2.2.2.2
  refine q_pop d902_889 rfl ?_
  refine q_aload_n d902_890 rfl ?_
  refine q_aload_n d902_891 rfl ?_
  refine q_iload_n d902_892 rfl ?_
  refine q_iconstN (z := 1) d902_893 ?_
  refine n_iadd d902_894 ?_
  refine n_ialds d902_895 ⟨by decide, hz1⟩ (by omega) (by omega) (hs1 _) ?_
  refine q_aload_n d902_896 rfl ?_
  refine q_iload_n d902_897 rfl ?_
  refine q_iconstN (z := 2) d902_898 ?_
  refine n_iadd d902_899 ?_
  refine n_ialds d902_900 ⟨by decide, hz1⟩ (by omega) (by omega) (hs1 _) ?_
  refine q_aload_n d902_901 rfl ?_
  refine q_iload_n d902_902 rfl ?_
  refine q_iconstN (z := 3) d902_903 ?_
  refine n_iadd d902_904 ?_
  refine n_ialds d902_905 ⟨by decide, hz1⟩ (by omega) (by omega) (hs1 _) ?_
  refine q_v3 d902_906 rfl rfl (xk_136 hc.2.1.1.1) (Nat.le_of_ble_eq_true rfl) (x210 hc.2.1 h.2.2.1 (by have := h.2.2.2.1; omega) (fun M2 κ2 hk2 hX2 f2 => ?_))
  refine q_pop d902_909 rfl ?_
  refine q_goto 1085 d902_910 (by decide) ?_
  refine n_iinc 7 d902_1085 (by decide) rfl rfl ?_
  refine q_goto 18 d902_1088 (by decide) ?_
  exact nx _ _ _ (hc.y hX2 hk2 (OKD_film h.2.2.1) f2)
theorem l902_21 {Q : Option Value → zM → Prop} {xs : Nat → Int32} {L : Nat} {M : zM} {D : yD} {κ i : Nat} (hL : L ≤ 3584) (h : LI xs L M D κ i) (hi : 7 * i + 7 ≤ L) (nx : ∀ M' D' κ', LI xs L M' D' κ' (i + 1) → qW (zEv 40) 902 Q 18 [(3, .int (nI (7 * i + 7))), (2, .ref 136), (1, .ref 16), (0, .ref 0)] [] M') : qW (zEv 40) 902 Q 913 [(3, .int (nI (7 * i))), (2, .ref 136), (1, .ref 16), (0, .ref 0)] [] M := by
  have hs := h.2.2.2.2.2.1
  have hz := h.2.2.2.2.2.2
  refine q_aload_n d902_913 rfl ?_
  refine q_aload_n d902_914 rfl ?_
  refine q_iload_n d902_915 rfl ?_
  refine q_iconstN (z := 1) d902_916 ?_
  refine n_iadd d902_917 ?_
  refine n_ialds d902_918 ⟨by decide, hz⟩ (by omega) (by omega) (hs _) ?_
  refine q_v1 d902_919 rfl rfl h.1.1.1.1.1 (Nat.le_of_ble_eq_true rfl) (p123 h.1 h.2.2.1 (fun M1 hR1 f1 => ?_))
  have hc : LC xs L M1 D D κ i := h.c hR1 f1
  have hs1 := hc.2.2.2.2.2.1
  have hz1 := hc.2.2.2.2.2.2
  refine q_aload_n d902_922 rfl ?_
  refine q_aload_n d902_923 rfl ?_
  refine q_iload_n d902_924 rfl ?_
  refine q_iconstN (z := 1) d902_925 ?_
  refine n_iadd d902_926 ?_
  refine n_ialds d902_927 ⟨by decide, hz1⟩ (by omega) (by omega) (hs1 _) ?_
  refine q_v1 d902_928 rfl rfl (xk_136 hc.2.1.1.1) (Nat.le_of_ble_eq_true rfl) (x211 hc.2.1 h.2.2.1 (by have := h.2.2.2.1; omega) (fun M2 hX2 f2 => ?_))
  refine ic_eq 1085 d902_931 (by decide) (fun h931 => ?_) (fun h931 => (False.elim (h931 rfl)))
  refine n_iinc 7 d902_1085 (by decide) rfl rfl ?_
  refine q_goto 18 d902_1088 (by decide) ?_
  exact nx _ _ _ (hc.y hX2 (Nat.le_add_right _ _) h.2.2.1 f2)
theorem l902_22 {Q : Option Value → zM → Prop} {xs : Nat → Int32} {L : Nat} {M : zM} {D : yD} {κ i : Nat} (hL : L ≤ 3584) (h : LI xs L M D κ i) (hi : 7 * i + 7 ≤ L) (nx : ∀ M' D' κ', LI xs L M' D' κ' (i + 1) → qW (zEv 40) 902 Q 18 [(3, .int (nI (7 * i + 7))), (2, .ref 136), (1, .ref 16), (0, .ref 0)] [] M') : qW (zEv 40) 902 Q 936 [(3, .int (nI (7 * i))), (2, .ref 136), (1, .ref 16), (0, .ref 0)] [] M := by
  have hs := h.2.2.2.2.2.1
  have hz := h.2.2.2.2.2.2
  refine q_aload_n d902_936 rfl ?_
  refine q_aload_n d902_937 rfl ?_
  refine q_iload_n d902_938 rfl ?_
  refine q_iconstN (z := 1) d902_939 ?_
  refine n_iadd d902_940 ?_
  refine n_ialds d902_941 ⟨by decide, hz⟩ (by omega) (by omega) (hs _) ?_
  refine q_aload_n d902_942 rfl ?_
  refine q_iload_n d902_943 rfl ?_
  refine q_iconstN (z := 2) d902_944 ?_
  refine n_iadd d902_945 ?_
  refine n_ialds d902_946 ⟨by decide, hz⟩ (by omega) (by omega) (hs _) ?_
  refine q_aload_n d902_947 rfl ?_
  refine q_iload_n d902_948 rfl ?_
  refine q_iconstN (z := 3) d902_949 ?_
  refine n_iadd d902_950 ?_
  refine n_ialds d902_951 ⟨by decide, hz⟩ (by omega) (by omega) (hs _) ?_
  refine q_v3 d902_952 rfl rfl h.1.1.1.1.1 (Nat.le_of_ble_eq_true rfl) (p125 h.1 h.2.2.1 (fun M1 hR1 f1 => ?_))
  have hc : LC xs L M1 D (sSheet D (xs (7 * i + 1)) (xs (7 * i + 2)) (xs (7 * i + 3))).2 κ i := h.c hR1 f1
  have hs1 := hc.2.2.2.2.2.1
  have hz1 := hc.2.2.2.2.2.2
  refine q_pop d902_955 rfl ?_
  refine q_aload_n d902_956 rfl ?_
  refine q_aload_n d902_957 rfl ?_
  refine q_iload_n d902_958 rfl ?_
  refine q_iconstN (z := 1) d902_959 ?_
  refine n_iadd d902_960 ?_
  refine n_ialds d902_961 ⟨by decide, hz1⟩ (by omega) (by omega) (hs1 _) ?_
  refine q_aload_n d902_962 rfl ?_
  refine q_iload_n d902_963 rfl ?_
  refine q_iconstN (z := 2) d902_964 ?_
  refine n_iadd d902_965 ?_
  refine n_ialds d902_966 ⟨by decide, hz1⟩ (by omega) (by omega) (hs1 _) ?_
  refine q_aload_n d902_967 rfl ?_
  refine q_iload_n d902_968 rfl ?_
  refine q_iconstN (z := 3) d902_969 ?_
  refine n_iadd d902_970 ?_
  refine n_ialds d902_971 ⟨by decide, hz1⟩ (by omega) (by omega) (hs1 _) ?_
  refine q_v3 d902_972 rfl rfl (xk_136 hc.2.1.1.1) (Nat.le_of_ble_eq_true rfl) (x213 hc.2.1 h.2.2.1 (by have := h.2.2.2.1; omega) (fun M2 κ2 hk2 hX2 f2 => ?_))
  refine q_pop d902_975 rfl ?_
  refine q_goto 1085 d902_976 (by decide) ?_
  refine n_iinc 7 d902_1085 (by decide) rfl rfl ?_
  refine q_goto 18 d902_1088 (by decide) ?_
  exact nx _ _ _ (hc.y hX2 hk2 (OKD_sheet h.2.2.1) f2)
theorem l902_23 {Q : Option Value → zM → Prop} {xs : Nat → Int32} {L : Nat} {M : zM} {D : yD} {κ i : Nat} (hL : L ≤ 3584) (h : LI xs L M D κ i) (hi : 7 * i + 7 ≤ L) (nx : ∀ M' D' κ', LI xs L M' D' κ' (i + 1) → qW (zEv 40) 902 Q 18 [(3, .int (nI (7 * i + 7))), (2, .ref 136), (1, .ref 16), (0, .ref 0)] [] M') : qW (zEv 40) 902 Q 979 [(3, .int (nI (7 * i))), (2, .ref 136), (1, .ref 16), (0, .ref 0)] [] M := by
  have hs := h.2.2.2.2.2.1
  have hz := h.2.2.2.2.2.2
  refine q_aload_n d902_979 rfl ?_
  refine q_aload_n d902_980 rfl ?_
  refine q_iload_n d902_981 rfl ?_
  refine q_iconstN (z := 1) d902_982 ?_
  refine n_iadd d902_983 ?_
  refine n_ialds d902_984 ⟨by decide, hz⟩ (by omega) (by omega) (hs _) ?_
  refine q_aload_n d902_985 rfl ?_
  refine q_iload_n d902_986 rfl ?_
  refine q_iconstN (z := 2) d902_987 ?_
  refine n_iadd d902_988 ?_
  refine n_ialds d902_989 ⟨by decide, hz⟩ (by omega) (by omega) (hs _) ?_
  refine q_aload_n d902_990 rfl ?_
  refine q_iload_n d902_991 rfl ?_
  refine q_iconstN (z := 3) d902_992 ?_
  refine n_iadd d902_993 ?_
  refine n_ialds d902_994 ⟨by decide, hz⟩ (by omega) (by omega) (hs _) ?_
  refine q_v3 d902_995 rfl rfl h.1.1.1.1.1 (Nat.le_of_ble_eq_true rfl) (p126 h.1 h.2.2.1 (fun M1 hR1 f1 => ?_))
  have hc : LC xs L M1 D D κ i := h.c hR1 f1
  have hs1 := hc.2.2.2.2.2.1
  have hz1 := hc.2.2.2.2.2.2
  refine q_pop d902_998 rfl ?_
  refine q_aload_n d902_999 rfl ?_
  refine q_aload_n d902_1000 rfl ?_
  refine q_iload_n d902_1001 rfl ?_
  refine q_iconstN (z := 1) d902_1002 ?_
  refine n_iadd d902_1003 ?_
  refine n_ialds d902_1004 ⟨by decide, hz1⟩ (by omega) (by omega) (hs1 _) ?_
  refine q_aload_n d902_1005 rfl ?_
  refine q_iload_n d902_1006 rfl ?_
  refine q_iconstN (z := 2) d902_1007 ?_
  refine n_iadd d902_1008 ?_
  refine n_ialds d902_1009 ⟨by decide, hz1⟩ (by omega) (by omega) (hs1 _) ?_
  refine q_aload_n d902_1010 rfl ?_
  refine q_iload_n d902_1011 rfl ?_
  refine q_iconstN (z := 3) d902_1012 ?_
  refine n_iadd d902_1013 ?_
  refine n_ialds d902_1014 ⟨by decide, hz1⟩ (by omega) (by omega) (hs1 _) ?_
  refine q_v3 d902_1015 rfl rfl (xk_136 hc.2.1.1.1) (Nat.le_of_ble_eq_true rfl) (x214 hc.2.1 h.2.2.1 (by have := h.2.2.2.1; omega) (fun M2 hX2 f2 => ?_))
  refine q_pop d902_1018 rfl ?_
  refine q_goto 1085 d902_1019 (by decide) ?_
  refine n_iinc 7 d902_1085 (by decide) rfl rfl ?_
  refine q_goto 18 d902_1088 (by decide) ?_
  exact nx _ _ _ (hc.y hX2 (Nat.le_add_right _ _) h.2.2.1 f2)
theorem l902_24 {Q : Option Value → zM → Prop} {xs : Nat → Int32} {L : Nat} {M : zM} {D : yD} {κ i : Nat} (hL : L ≤ 3584) (h : LI xs L M D κ i) (hi : 7 * i + 7 ≤ L) (nx : ∀ M' D' κ', LI xs L M' D' κ' (i + 1) → qW (zEv 40) 902 Q 18 [(3, .int (nI (7 * i + 7))), (2, .ref 136), (1, .ref 16), (0, .ref 0)] [] M') : qW (zEv 40) 902 Q 1022 [(3, .int (nI (7 * i))), (2, .ref 136), (1, .ref 16), (0, .ref 0)] [] M := by
  have hs := h.2.2.2.2.2.1
  have hz := h.2.2.2.2.2.2
  refine q_aload_n d902_1022 rfl ?_
  refine q_aload_n d902_1023 rfl ?_
  refine q_iload_n d902_1024 rfl ?_
  refine q_iconstN (z := 1) d902_1025 ?_
  refine n_iadd d902_1026 ?_
  refine n_ialds d902_1027 ⟨by decide, hz⟩ (by omega) (by omega) (hs _) ?_
  refine q_aload_n d902_1028 rfl ?_
  refine q_iload_n d902_1029 rfl ?_
  refine q_iconstN (z := 2) d902_1030 ?_
  refine n_iadd d902_1031 ?_
  refine n_ialds d902_1032 ⟨by decide, hz⟩ (by omega) (by omega) (hs _) ?_
  refine q_aload_n d902_1033 rfl ?_
  refine q_iload_n d902_1034 rfl ?_
  refine q_iconstN (z := 3) d902_1035 ?_
  refine n_iadd d902_1036 ?_
  refine n_ialds d902_1037 ⟨by decide, hz⟩ (by omega) (by omega) (hs _) ?_
  refine q_aload_n d902_1038 rfl ?_
  refine q_iload_n d902_1039 rfl ?_
  refine q_iconstN (z := 4) d902_1040 ?_
  refine n_iadd d902_1041 ?_
  refine n_ialds d902_1042 ⟨by decide, hz⟩ (by omega) (by omega) (hs _) ?_
  refine q_aload_n d902_1043 rfl ?_
  refine q_iload_n d902_1044 rfl ?_
  refine q_iconstN (z := 5) d902_1045 ?_
  refine n_iadd d902_1046 ?_
  refine n_ialds d902_1047 ⟨by decide, hz⟩ (by omega) (by omega) (hs _) ?_
  refine q_v5 d902_1048 rfl rfl h.1.1.1.1.1 (Nat.le_of_ble_eq_true rfl) (p127 h.1 h.2.2.1 (fun M1 hR1 f1 => ?_))
  have hc : LC xs L M1 D D κ i := h.c hR1 f1
  have hs1 := hc.2.2.2.2.2.1
  have hz1 := hc.2.2.2.2.2.2
  refine q_pop d902_1051 rfl ?_
  refine q_aload_n d902_1052 rfl ?_
  refine q_aload_n d902_1053 rfl ?_
  refine q_iload_n d902_1054 rfl ?_
  refine q_iconstN (z := 1) d902_1055 ?_
  refine n_iadd d902_1056 ?_
  refine n_ialds d902_1057 ⟨by decide, hz1⟩ (by omega) (by omega) (hs1 _) ?_
  refine q_aload_n d902_1058 rfl ?_
  refine q_iload_n d902_1059 rfl ?_
  refine q_iconstN (z := 2) d902_1060 ?_
  refine n_iadd d902_1061 ?_
  refine n_ialds d902_1062 ⟨by decide, hz1⟩ (by omega) (by omega) (hs1 _) ?_
  refine q_aload_n d902_1063 rfl ?_
  refine q_iload_n d902_1064 rfl ?_
  refine q_iconstN (z := 3) d902_1065 ?_
  refine n_iadd d902_1066 ?_
  refine n_ialds d902_1067 ⟨by decide, hz1⟩ (by omega) (by omega) (hs1 _) ?_
  refine q_aload_n d902_1068 rfl ?_
  refine q_iload_n d902_1069 rfl ?_
  refine q_iconstN (z := 4) d902_1070 ?_
  refine n_iadd d902_1071 ?_
  refine n_ialds d902_1072 ⟨by decide, hz1⟩ (by omega) (by omega) (hs1 _) ?_
  refine q_aload_n d902_1073 rfl ?_
  refine q_iload_n d902_1074 rfl ?_
  refine q_iconstN (z := 5) d902_1075 ?_
  refine n_iadd d902_1076 ?_
  refine n_ialds d902_1077 ⟨by decide, hz1⟩ (by omega) (by omega) (hs1 _) ?_
  refine q_v5 d902_1078 rfl rfl (xk_136 hc.2.1.1.1) (Nat.le_of_ble_eq_true rfl) (x215 hc.2.1 h.2.2.1 (by have := h.2.2.2.1; omega) (fun M2 hX2 f2 => ?_))
  refine q_pop d902_1081 rfl ?_
  refine q_goto 1085 d902_1082 (by decide) ?_
  refine n_iinc 7 d902_1085 (by decide) rfl rfl ?_
  refine q_goto 18 d902_1088 (by decide) ?_
  exact nx _ _ _ (hc.y hX2 (Nat.le_add_right _ _) h.2.2.1 f2)
