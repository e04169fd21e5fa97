/-! ===== the law ===== -/
theorem dL_law_0 : decode cL_law 0 = .ok (.new 8, 3) := by decide +kernel
theorem dL_law_3 : decode cL_law 3 = .ok (.dup, 1) := by decide +kernel
theorem dL_law_4 : decode cL_law 4 = .ok (.invokespecial 15, 3) := by decide +kernel
theorem dL_law_7 : decode cL_law 7 = .ok (.astore_n 1, 1) := by decide +kernel
theorem dL_law_8 : decode cL_law 8 = .ok (.new 16, 3) := by decide +kernel
theorem dL_law_11 : decode cL_law 11 = .ok (.dup, 1) := by decide +kernel
theorem dL_law_12 : decode cL_law 12 = .ok (.invokespecial 18, 3) := by decide +kernel
theorem dL_law_15 : decode cL_law 15 = .ok (.astore_n 2, 1) := by decide +kernel
theorem dL_law_16 : decode cL_law 16 = .ok (.iconst 1, 1) := by decide +kernel
theorem dL_law_17 : decode cL_law 17 = .ok (.newarray .long, 2) := by decide +kernel
theorem dL_law_19 : decode cL_law 19 = .ok (.astore_n 3, 1) := by decide +kernel
theorem dL_law_20 : decode cL_law 20 = .ok (.iconst 0, 1) := by decide +kernel
theorem dL_law_21 : decode cL_law 21 = .ok (.istore 4, 2) := by decide +kernel
theorem dL_law_23 : decode cL_law 23 = .ok (.iload 4, 2) := by decide +kernel
theorem dL_law_25 : decode cL_law 25 = .ok (.aload_n 0, 1) := by decide +kernel
theorem dL_law_26 : decode cL_law 26 = .ok (.arraylength, 1) := by decide +kernel
theorem dL_law_27 : decode cL_law 27 = .ok (.bipush 6, 2) := by decide +kernel
theorem dL_law_29 : decode cL_law 29 = .ok (.isub, 1) := by decide +kernel
theorem dL_law_30 : decode cL_law 30 = .ok (.if_icmp .gt 1217, 3) := by decide +kernel
theorem dL_law_33 : decode cL_law 33 = .ok (.aload_n 0, 1) := by decide +kernel
theorem dL_law_34 : decode cL_law 34 = .ok (.iload 4, 2) := by decide +kernel
theorem dL_law_36 : decode cL_law 36 = .ok (.iaload, 1) := by decide +kernel
theorem dL_law_37 : decode cL_law 37 = .ok (.bipush 31, 2) := by decide +kernel
theorem dL_law_39 : decode cL_law 39 = .ok (.iand, 1) := by decide +kernel
theorem dL_law_40 : decode cL_law 40 = .ok (.tableswitch 1201 0 25 #[120, 193, 218, 231, 244, 281, 318, 355, 392, 417, 478, 491, 516, 600, 649, 686, 723, 772, 821, 858, 919, 956, 993, 1042, 1103, 1152], 120) := by decide +kernel
theorem dL_law_160 : decode cL_law 160 = .ok (.aload_n 1, 1) := by decide +kernel
theorem dL_law_161 : decode cL_law 161 = .ok (.aload_n 0, 1) := by decide +kernel
theorem dL_law_162 : decode cL_law 162 = .ok (.iload 4, 2) := by decide +kernel
theorem dL_law_164 : decode cL_law 164 = .ok (.iconst 1, 1) := by decide +kernel
theorem dL_law_165 : decode cL_law 165 = .ok (.iadd, 1) := by decide +kernel
theorem dL_law_166 : decode cL_law 166 = .ok (.iaload, 1) := by decide +kernel
theorem dL_law_167 : decode cL_law 167 = .ok (.aload_n 0, 1) := by decide +kernel
theorem dL_law_168 : decode cL_law 168 = .ok (.iload 4, 2) := by decide +kernel
theorem dL_law_170 : decode cL_law 170 = .ok (.iconst 2, 1) := by decide +kernel
theorem dL_law_171 : decode cL_law 171 = .ok (.iadd, 1) := by decide +kernel
theorem dL_law_172 : decode cL_law 172 = .ok (.iaload, 1) := by decide +kernel
theorem dL_law_173 : decode cL_law 173 = .ok (.aload_n 0, 1) := by decide +kernel
theorem dL_law_174 : decode cL_law 174 = .ok (.iload 4, 2) := by decide +kernel
theorem dL_law_176 : decode cL_law 176 = .ok (.iconst 3, 1) := by decide +kernel
theorem dL_law_177 : decode cL_law 177 = .ok (.iadd, 1) := by decide +kernel
theorem dL_law_178 : decode cL_law 178 = .ok (.iaload, 1) := by decide +kernel
theorem dL_law_179 : decode cL_law 179 = .ok (.aload_n 0, 1) := by decide +kernel
theorem dL_law_180 : decode cL_law 180 = .ok (.iload 4, 2) := by decide +kernel
theorem dL_law_182 : decode cL_law 182 = .ok (.iconst 4, 1) := by decide +kernel
theorem dL_law_183 : decode cL_law 183 = .ok (.iadd, 1) := by decide +kernel
theorem dL_law_184 : decode cL_law 184 = .ok (.iaload, 1) := by decide +kernel
theorem dL_law_185 : decode cL_law 185 = .ok (.aload_n 0, 1) := by decide +kernel
theorem dL_law_186 : decode cL_law 186 = .ok (.iload 4, 2) := by decide +kernel
theorem dL_law_188 : decode cL_law 188 = .ok (.iconst 5, 1) := by decide +kernel
theorem dL_law_189 : decode cL_law 189 = .ok (.iadd, 1) := by decide +kernel
theorem dL_law_190 : decode cL_law 190 = .ok (.iaload, 1) := by decide +kernel
theorem dL_law_191 : decode cL_law 191 = .ok (.invokevirtual 19, 3) := by decide +kernel
theorem dL_law_194 : decode cL_law 194 = .ok (.aload_n 2, 1) := by decide +kernel
theorem dL_law_195 : decode cL_law 195 = .ok (.aload_n 0, 1) := by decide +kernel
theorem dL_law_196 : decode cL_law 196 = .ok (.iload 4, 2) := by decide +kernel
theorem dL_law_198 : decode cL_law 198 = .ok (.iconst 1, 1) := by decide +kernel
theorem dL_law_199 : decode cL_law 199 = .ok (.iadd, 1) := by decide +kernel
theorem dL_law_200 : decode cL_law 200 = .ok (.iaload, 1) := by decide +kernel
theorem dL_law_201 : decode cL_law 201 = .ok (.aload_n 0, 1) := by decide +kernel
theorem dL_law_202 : decode cL_law 202 = .ok (.iload 4, 2) := by decide +kernel
theorem dL_law_204 : decode cL_law 204 = .ok (.iconst 2, 1) := by decide +kernel
theorem dL_law_205 : decode cL_law 205 = .ok (.iadd, 1) := by decide +kernel
theorem dL_law_206 : decode cL_law 206 = .ok (.iaload, 1) := by decide +kernel
theorem dL_law_207 : decode cL_law 207 = .ok (.aload_n 0, 1) := by decide +kernel
theorem dL_law_208 : decode cL_law 208 = .ok (.iload 4, 2) := by decide +kernel
theorem dL_law_210 : decode cL_law 210 = .ok (.iconst 3, 1) := by decide +kernel
theorem dL_law_211 : decode cL_law 211 = .ok (.iadd, 1) := by decide +kernel
theorem dL_law_212 : decode cL_law 212 = .ok (.iaload, 1) := by decide +kernel
theorem dL_law_213 : decode cL_law 213 = .ok (.aload_n 0, 1) := by decide +kernel
theorem dL_law_214 : decode cL_law 214 = .ok (.iload 4, 2) := by decide +kernel
theorem dL_law_216 : decode cL_law 216 = .ok (.iconst 4, 1) := by decide +kernel
theorem dL_law_217 : decode cL_law 217 = .ok (.iadd, 1) := by decide +kernel
theorem dL_law_218 : decode cL_law 218 = .ok (.iaload, 1) := by decide +kernel
theorem dL_law_219 : decode cL_law 219 = .ok (.aload_n 0, 1) := by decide +kernel
theorem dL_law_220 : decode cL_law 220 = .ok (.iload 4, 2) := by decide +kernel
theorem dL_law_222 : decode cL_law 222 = .ok (.iconst 5, 1) := by decide +kernel
theorem dL_law_223 : decode cL_law 223 = .ok (.iadd, 1) := by decide +kernel
theorem dL_law_224 : decode cL_law 224 = .ok (.iaload, 1) := by decide +kernel
theorem dL_law_225 : decode cL_law 225 = .ok (.invokevirtual 23, 3) := by decide +kernel
theorem dL_law_228 : decode cL_law 228 = .ok (.if_icmp .eq 1013, 3) := by decide +kernel
theorem dL_law_231 : decode cL_law 231 = .ok (.iconst 0, 1) := by decide +kernel
theorem dL_law_232 : decode cL_law 232 = .ok (.ireturn, 1) := by decide +kernel
theorem dL_law_233 : decode cL_law 233 = .ok (.aload_n 1, 1) := by decide +kernel
theorem dL_law_234 : decode cL_law 234 = .ok (.aload_n 0, 1) := by decide +kernel
theorem dL_law_235 : decode cL_law 235 = .ok (.iload 4, 2) := by decide +kernel
theorem dL_law_237 : decode cL_law 237 = .ok (.iconst 1, 1) := by decide +kernel
theorem dL_law_238 : decode cL_law 238 = .ok (.iadd, 1) := by decide +kernel
theorem dL_law_239 : decode cL_law 239 = .ok (.iaload, 1) := by decide +kernel
theorem dL_law_240 : decode cL_law 240 = .ok (.invokevirtual 24, 3) := by decide +kernel
theorem dL_law_243 : decode cL_law 243 = .ok (.aload_n 2, 1) := by decide +kernel
theorem dL_law_244 : decode cL_law 244 = .ok (.aload_n 0, 1) := by decide +kernel
theorem dL_law_245 : decode cL_law 245 = .ok (.iload 4, 2) := by decide +kernel
theorem dL_law_247 : decode cL_law 247 = .ok (.iconst 1, 1) := by decide +kernel
theorem dL_law_248 : decode cL_law 248 = .ok (.iadd, 1) := by decide +kernel
theorem dL_law_249 : decode cL_law 249 = .ok (.iaload, 1) := by decide +kernel
theorem dL_law_250 : decode cL_law 250 = .ok (.invokevirtual 28, 3) := by decide +kernel
theorem dL_law_253 : decode cL_law 253 = .ok (.if_icmp .eq 988, 3) := by decide +kernel
theorem dL_law_256 : decode cL_law 256 = .ok (.iconst 0, 1) := by decide +kernel
theorem dL_law_257 : decode cL_law 257 = .ok (.ireturn, 1) := by decide +kernel
theorem dL_law_258 : decode cL_law 258 = .ok (.aload_n 1, 1) := by decide +kernel
theorem dL_law_259 : decode cL_law 259 = .ok (.invokevirtual 29, 3) := by decide +kernel
theorem dL_law_262 : decode cL_law 262 = .ok (.aload_n 2, 1) := by decide +kernel
theorem dL_law_263 : decode cL_law 263 = .ok (.invokevirtual 33, 3) := by decide +kernel
theorem dL_law_266 : decode cL_law 266 = .ok (.if_icmp .eq 975, 3) := by decide +kernel
theorem dL_law_269 : decode cL_law 269 = .ok (.iconst 0, 1) := by decide +kernel
theorem dL_law_270 : decode cL_law 270 = .ok (.ireturn, 1) := by decide +kernel
theorem dL_law_271 : decode cL_law 271 = .ok (.aload_n 1, 1) := by decide +kernel
theorem dL_law_272 : decode cL_law 272 = .ok (.invokevirtual 34, 3) := by decide +kernel
theorem dL_law_275 : decode cL_law 275 = .ok (.aload_n 2, 1) := by decide +kernel
theorem dL_law_276 : decode cL_law 276 = .ok (.invokevirtual 37, 3) := by decide +kernel
theorem dL_law_279 : decode cL_law 279 = .ok (.if_icmp .eq 962, 3) := by decide +kernel
theorem dL_law_282 : decode cL_law 282 = .ok (.iconst 0, 1) := by decide +kernel
theorem dL_law_283 : decode cL_law 283 = .ok (.ireturn, 1) := by decide +kernel
theorem dL_law_284 : decode cL_law 284 = .ok (.aload_n 1, 1) := by decide +kernel
theorem dL_law_285 : decode cL_law 285 = .ok (.aload_n 0, 1) := by decide +kernel
theorem dL_law_286 : decode cL_law 286 = .ok (.iload 4, 2) := by decide +kernel
theorem dL_law_288 : decode cL_law 288 = .ok (.iconst 1, 1) := by decide +kernel
theorem dL_law_289 : decode cL_law 289 = .ok (.iadd, 1) := by decide +kernel
theorem dL_law_290 : decode cL_law 290 = .ok (.iaload, 1) := by decide +kernel
theorem dL_law_291 : decode cL_law 291 = .ok (.aload_n 0, 1) := by decide +kernel
theorem dL_law_292 : decode cL_law 292 = .ok (.iload 4, 2) := by decide +kernel
theorem dL_law_294 : decode cL_law 294 = .ok (.iconst 2, 1) := by decide +kernel
theorem dL_law_295 : decode cL_law 295 = .ok (.iadd, 1) := by decide +kernel
theorem dL_law_296 : decode cL_law 296 = .ok (.iaload, 1) := by decide +kernel
theorem dL_law_297 : decode cL_law 297 = .ok (.invokevirtual 38, 3) := by decide +kernel
theorem dL_law_300 : decode cL_law 300 = .ok (.aload_n 2, 1) := by decide +kernel
theorem dL_law_301 : decode cL_law 301 = .ok (.aload_n 0, 1) := by decide +kernel
theorem dL_law_302 : decode cL_law 302 = .ok (.iload 4, 2) := by decide +kernel
theorem dL_law_304 : decode cL_law 304 = .ok (.iconst 1, 1) := by decide +kernel
theorem dL_law_305 : decode cL_law 305 = .ok (.iadd, 1) := by decide +kernel
theorem dL_law_306 : decode cL_law 306 = .ok (.iaload, 1) := by decide +kernel
theorem dL_law_307 : decode cL_law 307 = .ok (.aload_n 0, 1) := by decide +kernel
theorem dL_law_308 : decode cL_law 308 = .ok (.iload 4, 2) := by decide +kernel
theorem dL_law_310 : decode cL_law 310 = .ok (.iconst 2, 1) := by decide +kernel
theorem dL_law_311 : decode cL_law 311 = .ok (.iadd, 1) := by decide +kernel
theorem dL_law_312 : decode cL_law 312 = .ok (.iaload, 1) := by decide +kernel
theorem dL_law_313 : decode cL_law 313 = .ok (.invokevirtual 42, 3) := by decide +kernel
theorem dL_law_316 : decode cL_law 316 = .ok (.if_icmp .eq 925, 3) := by decide +kernel
theorem dL_law_319 : decode cL_law 319 = .ok (.iconst 0, 1) := by decide +kernel
theorem dL_law_320 : decode cL_law 320 = .ok (.ireturn, 1) := by decide +kernel
theorem dL_law_321 : decode cL_law 321 = .ok (.aload_n 1, 1) := by decide +kernel
theorem dL_law_322 : decode cL_law 322 = .ok (.aload_n 0, 1) := by decide +kernel
theorem dL_law_323 : decode cL_law 323 = .ok (.iload 4, 2) := by decide +kernel
theorem dL_law_325 : decode cL_law 325 = .ok (.iconst 1, 1) := by decide +kernel
theorem dL_law_326 : decode cL_law 326 = .ok (.iadd, 1) := by decide +kernel
theorem dL_law_327 : decode cL_law 327 = .ok (.iaload, 1) := by decide +kernel
theorem dL_law_328 : decode cL_law 328 = .ok (.aload_n 0, 1) := by decide +kernel
theorem dL_law_329 : decode cL_law 329 = .ok (.iload 4, 2) := by decide +kernel
theorem dL_law_331 : decode cL_law 331 = .ok (.iconst 2, 1) := by decide +kernel
theorem dL_law_332 : decode cL_law 332 = .ok (.iadd, 1) := by decide +kernel
theorem dL_law_333 : decode cL_law 333 = .ok (.iaload, 1) := by decide +kernel
theorem dL_law_334 : decode cL_law 334 = .ok (.invokevirtual 43, 3) := by decide +kernel
theorem dL_law_337 : decode cL_law 337 = .ok (.aload_n 2, 1) := by decide +kernel
theorem dL_law_338 : decode cL_law 338 = .ok (.aload_n 0, 1) := by decide +kernel
theorem dL_law_339 : decode cL_law 339 = .ok (.iload 4, 2) := by decide +kernel
theorem dL_law_341 : decode cL_law 341 = .ok (.iconst 1, 1) := by decide +kernel
theorem dL_law_342 : decode cL_law 342 = .ok (.iadd, 1) := by decide +kernel
theorem dL_law_343 : decode cL_law 343 = .ok (.iaload, 1) := by decide +kernel
theorem dL_law_344 : decode cL_law 344 = .ok (.aload_n 0, 1) := by decide +kernel
theorem dL_law_345 : decode cL_law 345 = .ok (.iload 4, 2) := by decide +kernel
theorem dL_law_347 : decode cL_law 347 = .ok (.iconst 2, 1) := by decide +kernel
theorem dL_law_348 : decode cL_law 348 = .ok (.iadd, 1) := by decide +kernel
theorem dL_law_349 : decode cL_law 349 = .ok (.iaload, 1) := by decide +kernel
theorem dL_law_350 : decode cL_law 350 = .ok (.invokevirtual 47, 3) := by decide +kernel
theorem dL_law_353 : decode cL_law 353 = .ok (.if_icmp .eq 888, 3) := by decide +kernel
theorem dL_law_356 : decode cL_law 356 = .ok (.iconst 0, 1) := by decide +kernel
theorem dL_law_357 : decode cL_law 357 = .ok (.ireturn, 1) := by decide +kernel
theorem dL_law_358 : decode cL_law 358 = .ok (.aload_n 1, 1) := by decide +kernel
theorem dL_law_359 : decode cL_law 359 = .ok (.aload_n 0, 1) := by decide +kernel
theorem dL_law_360 : decode cL_law 360 = .ok (.iload 4, 2) := by decide +kernel
theorem dL_law_362 : decode cL_law 362 = .ok (.iconst 1, 1) := by decide +kernel
theorem dL_law_363 : decode cL_law 363 = .ok (.iadd, 1) := by decide +kernel
theorem dL_law_364 : decode cL_law 364 = .ok (.iaload, 1) := by decide +kernel
theorem dL_law_365 : decode cL_law 365 = .ok (.aload_n 0, 1) := by decide +kernel
theorem dL_law_366 : decode cL_law 366 = .ok (.iload 4, 2) := by decide +kernel
theorem dL_law_368 : decode cL_law 368 = .ok (.iconst 2, 1) := by decide +kernel
theorem dL_law_369 : decode cL_law 369 = .ok (.iadd, 1) := by decide +kernel
theorem dL_law_370 : decode cL_law 370 = .ok (.iaload, 1) := by decide +kernel
theorem dL_law_371 : decode cL_law 371 = .ok (.invokevirtual 48, 3) := by decide +kernel
theorem dL_law_374 : decode cL_law 374 = .ok (.aload_n 2, 1) := by decide +kernel
theorem dL_law_375 : decode cL_law 375 = .ok (.aload_n 0, 1) := by decide +kernel
theorem dL_law_376 : decode cL_law 376 = .ok (.iload 4, 2) := by decide +kernel
theorem dL_law_378 : decode cL_law 378 = .ok (.iconst 1, 1) := by decide +kernel
theorem dL_law_379 : decode cL_law 379 = .ok (.iadd, 1) := by decide +kernel
theorem dL_law_380 : decode cL_law 380 = .ok (.iaload, 1) := by decide +kernel
theorem dL_law_381 : decode cL_law 381 = .ok (.aload_n 0, 1) := by decide +kernel
theorem dL_law_382 : decode cL_law 382 = .ok (.iload 4, 2) := by decide +kernel
theorem dL_law_384 : decode cL_law 384 = .ok (.iconst 2, 1) := by decide +kernel
theorem dL_law_385 : decode cL_law 385 = .ok (.iadd, 1) := by decide +kernel
theorem dL_law_386 : decode cL_law 386 = .ok (.iaload, 1) := by decide +kernel
theorem dL_law_387 : decode cL_law 387 = .ok (.invokevirtual 51, 3) := by decide +kernel
theorem dL_law_390 : decode cL_law 390 = .ok (.if_icmp .eq 851, 3) := by decide +kernel
theorem dL_law_393 : decode cL_law 393 = .ok (.iconst 0, 1) := by decide +kernel
theorem dL_law_394 : decode cL_law 394 = .ok (.ireturn, 1) := by decide +kernel
theorem dL_law_395 : decode cL_law 395 = .ok (.aload_n 1, 1) := by decide +kernel
theorem dL_law_396 : decode cL_law 396 = .ok (.aload_n 0, 1) := by decide +kernel
theorem dL_law_397 : decode cL_law 397 = .ok (.iload 4, 2) := by decide +kernel
theorem dL_law_399 : decode cL_law 399 = .ok (.iconst 1, 1) := by decide +kernel
theorem dL_law_400 : decode cL_law 400 = .ok (.iadd, 1) := by decide +kernel
theorem dL_law_401 : decode cL_law 401 = .ok (.iaload, 1) := by decide +kernel
theorem dL_law_402 : decode cL_law 402 = .ok (.aload_n 0, 1) := by decide +kernel
theorem dL_law_403 : decode cL_law 403 = .ok (.iload 4, 2) := by decide +kernel
theorem dL_law_405 : decode cL_law 405 = .ok (.iconst 2, 1) := by decide +kernel
theorem dL_law_406 : decode cL_law 406 = .ok (.iadd, 1) := by decide +kernel
theorem dL_law_407 : decode cL_law 407 = .ok (.iaload, 1) := by decide +kernel
theorem dL_law_408 : decode cL_law 408 = .ok (.invokevirtual 52, 3) := by decide +kernel
theorem dL_law_411 : decode cL_law 411 = .ok (.aload_n 2, 1) := by decide +kernel
theorem dL_law_412 : decode cL_law 412 = .ok (.aload_n 0, 1) := by decide +kernel
theorem dL_law_413 : decode cL_law 413 = .ok (.iload 4, 2) := by decide +kernel
theorem dL_law_415 : decode cL_law 415 = .ok (.iconst 1, 1) := by decide +kernel
theorem dL_law_416 : decode cL_law 416 = .ok (.iadd, 1) := by decide +kernel
theorem dL_law_417 : decode cL_law 417 = .ok (.iaload, 1) := by decide +kernel
theorem dL_law_418 : decode cL_law 418 = .ok (.aload_n 0, 1) := by decide +kernel
theorem dL_law_419 : decode cL_law 419 = .ok (.iload 4, 2) := by decide +kernel
theorem dL_law_421 : decode cL_law 421 = .ok (.iconst 2, 1) := by decide +kernel
theorem dL_law_422 : decode cL_law 422 = .ok (.iadd, 1) := by decide +kernel
theorem dL_law_423 : decode cL_law 423 = .ok (.iaload, 1) := by decide +kernel
theorem dL_law_424 : decode cL_law 424 = .ok (.invokevirtual 55, 3) := by decide +kernel
theorem dL_law_427 : decode cL_law 427 = .ok (.if_icmp .eq 814, 3) := by decide +kernel
theorem dL_law_430 : decode cL_law 430 = .ok (.iconst 0, 1) := by decide +kernel
theorem dL_law_431 : decode cL_law 431 = .ok (.ireturn, 1) := by decide +kernel
theorem dL_law_432 : decode cL_law 432 = .ok (.aload_n 1, 1) := by decide +kernel
theorem dL_law_433 : decode cL_law 433 = .ok (.aload_n 0, 1) := by decide +kernel
theorem dL_law_434 : decode cL_law 434 = .ok (.iload 4, 2) := by decide +kernel
theorem dL_law_436 : decode cL_law 436 = .ok (.iconst 1, 1) := by decide +kernel
theorem dL_law_437 : decode cL_law 437 = .ok (.iadd, 1) := by decide +kernel
theorem dL_law_438 : decode cL_law 438 = .ok (.iaload, 1) := by decide +kernel
theorem dL_law_439 : decode cL_law 439 = .ok (.invokevirtual 56, 3) := by decide +kernel
theorem dL_law_442 : decode cL_law 442 = .ok (.aload_n 2, 1) := by decide +kernel
theorem dL_law_443 : decode cL_law 443 = .ok (.aload_n 0, 1) := by decide +kernel
theorem dL_law_444 : decode cL_law 444 = .ok (.iload 4, 2) := by decide +kernel
theorem dL_law_446 : decode cL_law 446 = .ok (.iconst 1, 1) := by decide +kernel
theorem dL_law_447 : decode cL_law 447 = .ok (.iadd, 1) := by decide +kernel
theorem dL_law_448 : decode cL_law 448 = .ok (.iaload, 1) := by decide +kernel
theorem dL_law_449 : decode cL_law 449 = .ok (.invokevirtual 60, 3) := by decide +kernel
theorem dL_law_452 : decode cL_law 452 = .ok (.if_icmp .eq 789, 3) := by decide +kernel
theorem dL_law_455 : decode cL_law 455 = .ok (.iconst 0, 1) := by decide +kernel
theorem dL_law_456 : decode cL_law 456 = .ok (.ireturn, 1) := by decide +kernel
theorem dL_law_457 : decode cL_law 457 = .ok (.aload_n 1, 1) := by decide +kernel
theorem dL_law_458 : decode cL_law 458 = .ok (.aload_n 0, 1) := by decide +kernel
theorem dL_law_459 : decode cL_law 459 = .ok (.iload 4, 2) := by decide +kernel
theorem dL_law_461 : decode cL_law 461 = .ok (.iconst 1, 1) := by decide +kernel
theorem dL_law_462 : decode cL_law 462 = .ok (.iadd, 1) := by decide +kernel
theorem dL_law_463 : decode cL_law 463 = .ok (.iaload, 1) := by decide +kernel
theorem dL_law_464 : decode cL_law 464 = .ok (.aload_n 0, 1) := by decide +kernel
theorem dL_law_465 : decode cL_law 465 = .ok (.iload 4, 2) := by decide +kernel
theorem dL_law_467 : decode cL_law 467 = .ok (.iconst 2, 1) := by decide +kernel
theorem dL_law_468 : decode cL_law 468 = .ok (.iadd, 1) := by decide +kernel
theorem dL_law_469 : decode cL_law 469 = .ok (.iaload, 1) := by decide +kernel
theorem dL_law_470 : decode cL_law 470 = .ok (.aload_n 0, 1) := by decide +kernel
theorem dL_law_471 : decode cL_law 471 = .ok (.iload 4, 2) := by decide +kernel
theorem dL_law_473 : decode cL_law 473 = .ok (.iconst 3, 1) := by decide +kernel
theorem dL_law_474 : decode cL_law 474 = .ok (.iadd, 1) := by decide +kernel
theorem dL_law_475 : decode cL_law 475 = .ok (.iaload, 1) := by decide +kernel
theorem dL_law_476 : decode cL_law 476 = .ok (.aload_n 0, 1) := by decide +kernel
theorem dL_law_477 : decode cL_law 477 = .ok (.iload 4, 2) := by decide +kernel
theorem dL_law_479 : decode cL_law 479 = .ok (.iconst 4, 1) := by decide +kernel
theorem dL_law_480 : decode cL_law 480 = .ok (.iadd, 1) := by decide +kernel
theorem dL_law_481 : decode cL_law 481 = .ok (.iaload, 1) := by decide +kernel
theorem dL_law_482 : decode cL_law 482 = .ok (.invokevirtual 61, 3) := by decide +kernel
theorem dL_law_485 : decode cL_law 485 = .ok (.aload_n 2, 1) := by decide +kernel
theorem dL_law_486 : decode cL_law 486 = .ok (.aload_n 0, 1) := by decide +kernel
theorem dL_law_487 : decode cL_law 487 = .ok (.iload 4, 2) := by decide +kernel
theorem dL_law_489 : decode cL_law 489 = .ok (.iconst 1, 1) := by decide +kernel
theorem dL_law_490 : decode cL_law 490 = .ok (.iadd, 1) := by decide +kernel
theorem dL_law_491 : decode cL_law 491 = .ok (.iaload, 1) := by decide +kernel
theorem dL_law_492 : decode cL_law 492 = .ok (.aload_n 0, 1) := by decide +kernel
theorem dL_law_493 : decode cL_law 493 = .ok (.iload 4, 2) := by decide +kernel
theorem dL_law_495 : decode cL_law 495 = .ok (.iconst 2, 1) := by decide +kernel
theorem dL_law_496 : decode cL_law 496 = .ok (.iadd, 1) := by decide +kernel
theorem dL_law_497 : decode cL_law 497 = .ok (.iaload, 1) := by decide +kernel
theorem dL_law_498 : decode cL_law 498 = .ok (.aload_n 0, 1) := by decide +kernel
theorem dL_law_499 : decode cL_law 499 = .ok (.iload 4, 2) := by decide +kernel
theorem dL_law_501 : decode cL_law 501 = .ok (.iconst 3, 1) := by decide +kernel
theorem dL_law_502 : decode cL_law 502 = .ok (.iadd, 1) := by decide +kernel
theorem dL_law_503 : decode cL_law 503 = .ok (.iaload, 1) := by decide +kernel
theorem dL_law_504 : decode cL_law 504 = .ok (.aload_n 0, 1) := by decide +kernel
theorem dL_law_505 : decode cL_law 505 = .ok (.iload 4, 2) := by decide +kernel
theorem dL_law_507 : decode cL_law 507 = .ok (.iconst 4, 1) := by decide +kernel
theorem dL_law_508 : decode cL_law 508 = .ok (.iadd, 1) := by decide +kernel
theorem dL_law_509 : decode cL_law 509 = .ok (.iaload, 1) := by decide +kernel
theorem dL_law_510 : decode cL_law 510 = .ok (.invokevirtual 65, 3) := by decide +kernel
theorem dL_law_513 : decode cL_law 513 = .ok (.if_icmp .eq 728, 3) := by decide +kernel
theorem dL_law_516 : decode cL_law 516 = .ok (.iconst 0, 1) := by decide +kernel
theorem dL_law_517 : decode cL_law 517 = .ok (.ireturn, 1) := by decide +kernel
theorem dL_law_518 : decode cL_law 518 = .ok (.aload_n 1, 1) := by decide +kernel
theorem dL_law_519 : decode cL_law 519 = .ok (.invokevirtual 66, 3) := by decide +kernel
theorem dL_law_522 : decode cL_law 522 = .ok (.aload_n 2, 1) := by decide +kernel
theorem dL_law_523 : decode cL_law 523 = .ok (.invokevirtual 69, 3) := by decide +kernel
theorem dL_law_526 : decode cL_law 526 = .ok (.if_icmp .eq 715, 3) := by decide +kernel
theorem dL_law_529 : decode cL_law 529 = .ok (.iconst 0, 1) := by decide +kernel
theorem dL_law_530 : decode cL_law 530 = .ok (.ireturn, 1) := by decide +kernel
theorem dL_law_531 : decode cL_law 531 = .ok (.aload_n 1, 1) := by decide +kernel
theorem dL_law_532 : decode cL_law 532 = .ok (.aload_n 0, 1) := by decide +kernel
theorem dL_law_533 : decode cL_law 533 = .ok (.iload 4, 2) := by decide +kernel
theorem dL_law_535 : decode cL_law 535 = .ok (.iconst 1, 1) := by decide +kernel
theorem dL_law_536 : decode cL_law 536 = .ok (.iadd, 1) := by decide +kernel
theorem dL_law_537 : decode cL_law 537 = .ok (.iaload, 1) := by decide +kernel
theorem dL_law_538 : decode cL_law 538 = .ok (.invokevirtual 70, 3) := by decide +kernel
theorem dL_law_541 : decode cL_law 541 = .ok (.aload_n 2, 1) := by decide +kernel
theorem dL_law_542 : decode cL_law 542 = .ok (.aload_n 0, 1) := by decide +kernel
theorem dL_law_543 : decode cL_law 543 = .ok (.iload 4, 2) := by decide +kernel
theorem dL_law_545 : decode cL_law 545 = .ok (.iconst 1, 1) := by decide +kernel
theorem dL_law_546 : decode cL_law 546 = .ok (.iadd, 1) := by decide +kernel
theorem dL_law_547 : decode cL_law 547 = .ok (.iaload, 1) := by decide +kernel
theorem dL_law_548 : decode cL_law 548 = .ok (.invokevirtual 73, 3) := by decide +kernel
theorem dL_law_551 : decode cL_law 551 = .ok (.if_icmp .eq 690, 3) := by decide +kernel
theorem dL_law_554 : decode cL_law 554 = .ok (.iconst 0, 1) := by decide +kernel
theorem dL_law_555 : decode cL_law 555 = .ok (.ireturn, 1) := by decide +kernel
theorem dL_law_556 : decode cL_law 556 = .ok (.aload_n 1, 1) := by decide +kernel
theorem dL_law_557 : decode cL_law 557 = .ok (.aload_n 0, 1) := by decide +kernel
theorem dL_law_558 : decode cL_law 558 = .ok (.iload 4, 2) := by decide +kernel
theorem dL_law_560 : decode cL_law 560 = .ok (.iconst 1, 1) := by decide +kernel
theorem dL_law_561 : decode cL_law 561 = .ok (.iadd, 1) := by decide +kernel
theorem dL_law_562 : decode cL_law 562 = .ok (.iaload, 1) := by decide +kernel
theorem dL_law_563 : decode cL_law 563 = .ok (.aload_n 0, 1) := by decide +kernel
theorem dL_law_564 : decode cL_law 564 = .ok (.iload 4, 2) := by decide +kernel
theorem dL_law_566 : decode cL_law 566 = .ok (.iconst 2, 1) := by decide +kernel
theorem dL_law_567 : decode cL_law 567 = .ok (.iadd, 1) := by decide +kernel
theorem dL_law_568 : decode cL_law 568 = .ok (.iaload, 1) := by decide +kernel
theorem dL_law_569 : decode cL_law 569 = .ok (.ifCond .eq 7, 3) := by decide +kernel
theorem dL_law_572 : decode cL_law 572 = .ok (.iconst 1, 1) := by decide +kernel
theorem dL_law_573 : decode cL_law 573 = .ok (.goto 4, 3) := by decide +kernel
theorem dL_law_576 : decode cL_law 576 = .ok (.iconst 0, 1) := by decide +kernel
theorem dL_law_577 : decode cL_law 577 = .ok (.aload_n 3, 1) := by decide +kernel
theorem dL_law_578 : decode cL_law 578 = .ok (.invokestatic 74, 3) := by decide +kernel
theorem dL_law_581 : decode cL_law 581 = .ok (.istore 5, 2) := by decide +kernel
theorem dL_law_583 : decode cL_law 583 = .ok (.aload_n 2, 1) := by decide +kernel
theorem dL_law_584 : decode cL_law 584 = .ok (.aload_n 0, 1) := by decide +kernel
theorem dL_law_585 : decode cL_law 585 = .ok (.iload 4, 2) := by decide +kernel
theorem dL_law_587 : decode cL_law 587 = .ok (.iconst 1, 1) := by decide +kernel
theorem dL_law_588 : decode cL_law 588 = .ok (.iadd, 1) := by decide +kernel
theorem dL_law_589 : decode cL_law 589 = .ok (.iaload, 1) := by decide +kernel
theorem dL_law_590 : decode cL_law 590 = .ok (.aload_n 0, 1) := by decide +kernel
theorem dL_law_591 : decode cL_law 591 = .ok (.iload 4, 2) := by decide +kernel
theorem dL_law_593 : decode cL_law 593 = .ok (.iconst 2, 1) := by decide +kernel
theorem dL_law_594 : decode cL_law 594 = .ok (.iadd, 1) := by decide +kernel
theorem dL_law_595 : decode cL_law 595 = .ok (.iaload, 1) := by decide +kernel
theorem dL_law_596 : decode cL_law 596 = .ok (.ifCond .eq 7, 3) := by decide +kernel
theorem dL_law_599 : decode cL_law 599 = .ok (.iconst 1, 1) := by decide +kernel
theorem dL_law_600 : decode cL_law 600 = .ok (.goto 4, 3) := by decide +kernel
theorem dL_law_603 : decode cL_law 603 = .ok (.iconst 0, 1) := by decide +kernel
theorem dL_law_604 : decode cL_law 604 = .ok (.invokevirtual 79, 3) := by decide +kernel
theorem dL_law_607 : decode cL_law 607 = .ok (.istore 6, 2) := by decide +kernel
theorem dL_law_609 : decode cL_law 609 = .ok (.aload_n 2, 1) := by decide +kernel
theorem dL_law_610 : decode cL_law 610 = .ok (.invokevirtual 80, 3) := by decide +kernel
theorem dL_law_613 : decode cL_law 613 = .ok (.iload 5, 2) := by decide +kernel
theorem dL_law_615 : decode cL_law 615 = .ok (.if_icmp .eq 5, 3) := by decide +kernel
theorem dL_law_618 : decode cL_law 618 = .ok (.iconst 0, 1) := by decide +kernel
theorem dL_law_619 : decode cL_law 619 = .ok (.ireturn, 1) := by decide +kernel
theorem dL_law_620 : decode cL_law 620 = .ok (.iload 5, 2) := by decide +kernel
theorem dL_law_622 : decode cL_law 622 = .ok (.ifCond .ne 15, 3) := by decide +kernel
theorem dL_law_625 : decode cL_law 625 = .ok (.aload_n 3, 1) := by decide +kernel
theorem dL_law_626 : decode cL_law 626 = .ok (.iconst 0, 1) := by decide +kernel
theorem dL_law_627 : decode cL_law 627 = .ok (.laload, 1) := by decide +kernel
theorem dL_law_628 : decode cL_law 628 = .ok (.iload 6, 2) := by decide +kernel
theorem dL_law_630 : decode cL_law 630 = .ok (.i2l, 1) := by decide +kernel
theorem dL_law_631 : decode cL_law 631 = .ok (.lcmp, 1) := by decide +kernel
theorem dL_law_632 : decode cL_law 632 = .ok (.ifCond .eq 5, 3) := by decide +kernel
theorem dL_law_635 : decode cL_law 635 = .ok (.iconst 0, 1) := by decide +kernel
theorem dL_law_636 : decode cL_law 636 = .ok (.ireturn, 1) := by decide +kernel
theorem dL_law_637 : decode cL_law 637 = .ok (.goto 604, 3) := by decide +kernel
theorem dL_law_640 : decode cL_law 640 = .ok (.aload_n 1, 1) := by decide +kernel
theorem dL_law_641 : decode cL_law 641 = .ok (.aload_n 0, 1) := by decide +kernel
theorem dL_law_642 : decode cL_law 642 = .ok (.iload 4, 2) := by decide +kernel
theorem dL_law_644 : decode cL_law 644 = .ok (.iconst 1, 1) := by decide +kernel
theorem dL_law_645 : decode cL_law 645 = .ok (.iadd, 1) := by decide +kernel
theorem dL_law_646 : decode cL_law 646 = .ok (.iaload, 1) := by decide +kernel
theorem dL_law_647 : decode cL_law 647 = .ok (.aload_n 0, 1) := by decide +kernel
theorem dL_law_648 : decode cL_law 648 = .ok (.iload 4, 2) := by decide +kernel
theorem dL_law_650 : decode cL_law 650 = .ok (.iconst 2, 1) := by decide +kernel
theorem dL_law_651 : decode cL_law 651 = .ok (.iadd, 1) := by decide +kernel
theorem dL_law_652 : decode cL_law 652 = .ok (.iaload, 1) := by decide +kernel
theorem dL_law_653 : decode cL_law 653 = .ok (.aload_n 0, 1) := by decide +kernel
theorem dL_law_654 : decode cL_law 654 = .ok (.iload 4, 2) := by decide +kernel
theorem dL_law_656 : decode cL_law 656 = .ok (.iconst 3, 1) := by decide +kernel
theorem dL_law_657 : decode cL_law 657 = .ok (.iadd, 1) := by decide +kernel
theorem dL_law_658 : decode cL_law 658 = .ok (.iaload, 1) := by decide +kernel
theorem dL_law_659 : decode cL_law 659 = .ok (.invokevirtual 83, 3) := by decide +kernel
theorem dL_law_662 : decode cL_law 662 = .ok (.aload_n 2, 1) := by decide +kernel
theorem dL_law_663 : decode cL_law 663 = .ok (.aload_n 0, 1) := by decide +kernel
theorem dL_law_664 : decode cL_law 664 = .ok (.iload 4, 2) := by decide +kernel
theorem dL_law_666 : decode cL_law 666 = .ok (.iconst 1, 1) := by decide +kernel
theorem dL_law_667 : decode cL_law 667 = .ok (.iadd, 1) := by decide +kernel
theorem dL_law_668 : decode cL_law 668 = .ok (.iaload, 1) := by decide +kernel
theorem dL_law_669 : decode cL_law 669 = .ok (.aload_n 0, 1) := by decide +kernel
theorem dL_law_670 : decode cL_law 670 = .ok (.iload 4, 2) := by decide +kernel
theorem dL_law_672 : decode cL_law 672 = .ok (.iconst 2, 1) := by decide +kernel
theorem dL_law_673 : decode cL_law 673 = .ok (.iadd, 1) := by decide +kernel
theorem dL_law_674 : decode cL_law 674 = .ok (.iaload, 1) := by decide +kernel
theorem dL_law_675 : decode cL_law 675 = .ok (.aload_n 0, 1) := by decide +kernel
theorem dL_law_676 : decode cL_law 676 = .ok (.iload 4, 2) := by decide +kernel
theorem dL_law_678 : decode cL_law 678 = .ok (.iconst 3, 1) := by decide +kernel
theorem dL_law_679 : decode cL_law 679 = .ok (.iadd, 1) := by decide +kernel
theorem dL_law_680 : decode cL_law 680 = .ok (.iaload, 1) := by decide +kernel
theorem dL_law_681 : decode cL_law 681 = .ok (.invokevirtual 87, 3) := by decide +kernel
theorem dL_law_684 : decode cL_law 684 = .ok (.if_icmp .eq 557, 3) := by decide +kernel
theorem dL_law_687 : decode cL_law 687 = .ok (.iconst 0, 1) := by decide +kernel
theorem dL_law_688 : decode cL_law 688 = .ok (.ireturn, 1) := by decide +kernel
theorem dL_law_689 : decode cL_law 689 = .ok (.aload_n 1, 1) := by decide +kernel
theorem dL_law_690 : decode cL_law 690 = .ok (.aload_n 0, 1) := by decide +kernel
theorem dL_law_691 : decode cL_law 691 = .ok (.iload 4, 2) := by decide +kernel
theorem dL_law_693 : decode cL_law 693 = .ok (.iconst 1, 1) := by decide +kernel
theorem dL_law_694 : decode cL_law 694 = .ok (.iadd, 1) := by decide +kernel
theorem dL_law_695 : decode cL_law 695 = .ok (.iaload, 1) := by decide +kernel
theorem dL_law_696 : decode cL_law 696 = .ok (.aload_n 0, 1) := by decide +kernel
theorem dL_law_697 : decode cL_law 697 = .ok (.iload 4, 2) := by decide +kernel
theorem dL_law_699 : decode cL_law 699 = .ok (.iconst 2, 1) := by decide +kernel
theorem dL_law_700 : decode cL_law 700 = .ok (.iadd, 1) := by decide +kernel
theorem dL_law_701 : decode cL_law 701 = .ok (.iaload, 1) := by decide +kernel
theorem dL_law_702 : decode cL_law 702 = .ok (.invokevirtual 88, 3) := by decide +kernel
theorem dL_law_705 : decode cL_law 705 = .ok (.aload_n 2, 1) := by decide +kernel
theorem dL_law_706 : decode cL_law 706 = .ok (.aload_n 0, 1) := by decide +kernel
theorem dL_law_707 : decode cL_law 707 = .ok (.iload 4, 2) := by decide +kernel
theorem dL_law_709 : decode cL_law 709 = .ok (.iconst 1, 1) := by decide +kernel
theorem dL_law_710 : decode cL_law 710 = .ok (.iadd, 1) := by decide +kernel
theorem dL_law_711 : decode cL_law 711 = .ok (.iaload, 1) := by decide +kernel
theorem dL_law_712 : decode cL_law 712 = .ok (.aload_n 0, 1) := by decide +kernel
theorem dL_law_713 : decode cL_law 713 = .ok (.iload 4, 2) := by decide +kernel
theorem dL_law_715 : decode cL_law 715 = .ok (.iconst 2, 1) := by decide +kernel
theorem dL_law_716 : decode cL_law 716 = .ok (.iadd, 1) := by decide +kernel
theorem dL_law_717 : decode cL_law 717 = .ok (.iaload, 1) := by decide +kernel
theorem dL_law_718 : decode cL_law 718 = .ok (.invokevirtual 91, 3) := by decide +kernel
theorem dL_law_721 : decode cL_law 721 = .ok (.if_icmp .eq 520, 3) := by decide +kernel
theorem dL_law_724 : decode cL_law 724 = .ok (.iconst 0, 1) := by decide +kernel
theorem dL_law_725 : decode cL_law 725 = .ok (.ireturn, 1) := by decide +kernel
theorem dL_law_726 : decode cL_law 726 = .ok (.aload_n 1, 1) := by decide +kernel
theorem dL_law_727 : decode cL_law 727 = .ok (.aload_n 0, 1) := by decide +kernel
theorem dL_law_728 : decode cL_law 728 = .ok (.iload 4, 2) := by decide +kernel
theorem dL_law_730 : decode cL_law 730 = .ok (.iconst 1, 1) := by decide +kernel
theorem dL_law_731 : decode cL_law 731 = .ok (.iadd, 1) := by decide +kernel
theorem dL_law_732 : decode cL_law 732 = .ok (.iaload, 1) := by decide +kernel
theorem dL_law_733 : decode cL_law 733 = .ok (.aload_n 0, 1) := by decide +kernel
theorem dL_law_734 : decode cL_law 734 = .ok (.iload 4, 2) := by decide +kernel
theorem dL_law_736 : decode cL_law 736 = .ok (.iconst 2, 1) := by decide +kernel
theorem dL_law_737 : decode cL_law 737 = .ok (.iadd, 1) := by decide +kernel
theorem dL_law_738 : decode cL_law 738 = .ok (.iaload, 1) := by decide +kernel
theorem dL_law_739 : decode cL_law 739 = .ok (.invokevirtual 92, 3) := by decide +kernel
theorem dL_law_742 : decode cL_law 742 = .ok (.aload_n 2, 1) := by decide +kernel
theorem dL_law_743 : decode cL_law 743 = .ok (.aload_n 0, 1) := by decide +kernel
theorem dL_law_744 : decode cL_law 744 = .ok (.iload 4, 2) := by decide +kernel
theorem dL_law_746 : decode cL_law 746 = .ok (.iconst 1, 1) := by decide +kernel
theorem dL_law_747 : decode cL_law 747 = .ok (.iadd, 1) := by decide +kernel
theorem dL_law_748 : decode cL_law 748 = .ok (.iaload, 1) := by decide +kernel
theorem dL_law_749 : decode cL_law 749 = .ok (.aload_n 0, 1) := by decide +kernel
theorem dL_law_750 : decode cL_law 750 = .ok (.iload 4, 2) := by decide +kernel
theorem dL_law_752 : decode cL_law 752 = .ok (.iconst 2, 1) := by decide +kernel
theorem dL_law_753 : decode cL_law 753 = .ok (.iadd, 1) := by decide +kernel
theorem dL_law_754 : decode cL_law 754 = .ok (.iaload, 1) := by decide +kernel
theorem dL_law_755 : decode cL_law 755 = .ok (.invokevirtual 95, 3) := by decide +kernel
theorem dL_law_758 : decode cL_law 758 = .ok (.if_icmp .eq 483, 3) := by decide +kernel
theorem dL_law_761 : decode cL_law 761 = .ok (.iconst 0, 1) := by decide +kernel
theorem dL_law_762 : decode cL_law 762 = .ok (.ireturn, 1) := by decide +kernel
theorem dL_law_763 : decode cL_law 763 = .ok (.aload_n 1, 1) := by decide +kernel
theorem dL_law_764 : decode cL_law 764 = .ok (.aload_n 0, 1) := by decide +kernel
theorem dL_law_765 : decode cL_law 765 = .ok (.iload 4, 2) := by decide +kernel
theorem dL_law_767 : decode cL_law 767 = .ok (.iconst 1, 1) := by decide +kernel
theorem dL_law_768 : decode cL_law 768 = .ok (.iadd, 1) := by decide +kernel
theorem dL_law_769 : decode cL_law 769 = .ok (.iaload, 1) := by decide +kernel
theorem dL_law_770 : decode cL_law 770 = .ok (.aload_n 0, 1) := by decide +kernel
theorem dL_law_771 : decode cL_law 771 = .ok (.iload 4, 2) := by decide +kernel
theorem dL_law_773 : decode cL_law 773 = .ok (.iconst 2, 1) := by decide +kernel
theorem dL_law_774 : decode cL_law 774 = .ok (.iadd, 1) := by decide +kernel
theorem dL_law_775 : decode cL_law 775 = .ok (.iaload, 1) := by decide +kernel
theorem dL_law_776 : decode cL_law 776 = .ok (.aload_n 0, 1) := by decide +kernel
theorem dL_law_777 : decode cL_law 777 = .ok (.iload 4, 2) := by decide +kernel
theorem dL_law_779 : decode cL_law 779 = .ok (.iconst 3, 1) := by decide +kernel
theorem dL_law_780 : decode cL_law 780 = .ok (.iadd, 1) := by decide +kernel
theorem dL_law_781 : decode cL_law 781 = .ok (.iaload, 1) := by decide +kernel
theorem dL_law_782 : decode cL_law 782 = .ok (.invokevirtual 96, 3) := by decide +kernel
theorem dL_law_785 : decode cL_law 785 = .ok (.aload_n 2, 1) := by decide +kernel
theorem dL_law_786 : decode cL_law 786 = .ok (.aload_n 0, 1) := by decide +kernel
theorem dL_law_787 : decode cL_law 787 = .ok (.iload 4, 2) := by decide +kernel
theorem dL_law_789 : decode cL_law 789 = .ok (.iconst 1, 1) := by decide +kernel
theorem dL_law_790 : decode cL_law 790 = .ok (.iadd, 1) := by decide +kernel
theorem dL_law_791 : decode cL_law 791 = .ok (.iaload, 1) := by decide +kernel
theorem dL_law_792 : decode cL_law 792 = .ok (.aload_n 0, 1) := by decide +kernel
theorem dL_law_793 : decode cL_law 793 = .ok (.iload 4, 2) := by decide +kernel
theorem dL_law_795 : decode cL_law 795 = .ok (.iconst 2, 1) := by decide +kernel
theorem dL_law_796 : decode cL_law 796 = .ok (.iadd, 1) := by decide +kernel
theorem dL_law_797 : decode cL_law 797 = .ok (.iaload, 1) := by decide +kernel
theorem dL_law_798 : decode cL_law 798 = .ok (.aload_n 0, 1) := by decide +kernel
theorem dL_law_799 : decode cL_law 799 = .ok (.iload 4, 2) := by decide +kernel
theorem dL_law_801 : decode cL_law 801 = .ok (.iconst 3, 1) := by decide +kernel
theorem dL_law_802 : decode cL_law 802 = .ok (.iadd, 1) := by decide +kernel
theorem dL_law_803 : decode cL_law 803 = .ok (.iaload, 1) := by decide +kernel
theorem dL_law_804 : decode cL_law 804 = .ok (.invokevirtual 99, 3) := by decide +kernel
theorem dL_law_807 : decode cL_law 807 = .ok (.if_icmp .eq 434, 3) := by decide +kernel
theorem dL_law_810 : decode cL_law 810 = .ok (.iconst 0, 1) := by decide +kernel
theorem dL_law_811 : decode cL_law 811 = .ok (.ireturn, 1) := by decide +kernel
theorem dL_law_812 : decode cL_law 812 = .ok (.aload_n 1, 1) := by decide +kernel
theorem dL_law_813 : decode cL_law 813 = .ok (.aload_n 0, 1) := by decide +kernel
theorem dL_law_814 : decode cL_law 814 = .ok (.iload 4, 2) := by decide +kernel
theorem dL_law_816 : decode cL_law 816 = .ok (.iconst 1, 1) := by decide +kernel
theorem dL_law_817 : decode cL_law 817 = .ok (.iadd, 1) := by decide +kernel
theorem dL_law_818 : decode cL_law 818 = .ok (.iaload, 1) := by decide +kernel
theorem dL_law_819 : decode cL_law 819 = .ok (.aload_n 0, 1) := by decide +kernel
theorem dL_law_820 : decode cL_law 820 = .ok (.iload 4, 2) := by decide +kernel
theorem dL_law_822 : decode cL_law 822 = .ok (.iconst 2, 1) := by decide +kernel
theorem dL_law_823 : decode cL_law 823 = .ok (.iadd, 1) := by decide +kernel
theorem dL_law_824 : decode cL_law 824 = .ok (.iaload, 1) := by decide +kernel
theorem dL_law_825 : decode cL_law 825 = .ok (.aload_n 0, 1) := by decide +kernel
theorem dL_law_826 : decode cL_law 826 = .ok (.iload 4, 2) := by decide +kernel
theorem dL_law_828 : decode cL_law 828 = .ok (.iconst 3, 1) := by decide +kernel
theorem dL_law_829 : decode cL_law 829 = .ok (.iadd, 1) := by decide +kernel
theorem dL_law_830 : decode cL_law 830 = .ok (.iaload, 1) := by decide +kernel
theorem dL_law_831 : decode cL_law 831 = .ok (.invokevirtual 100, 3) := by decide +kernel
theorem dL_law_834 : decode cL_law 834 = .ok (.aload_n 2, 1) := by decide +kernel
theorem dL_law_835 : decode cL_law 835 = .ok (.aload_n 0, 1) := by decide +kernel
theorem dL_law_836 : decode cL_law 836 = .ok (.iload 4, 2) := by decide +kernel
theorem dL_law_838 : decode cL_law 838 = .ok (.iconst 1, 1) := by decide +kernel
theorem dL_law_839 : decode cL_law 839 = .ok (.iadd, 1) := by decide +kernel
theorem dL_law_840 : decode cL_law 840 = .ok (.iaload, 1) := by decide +kernel
theorem dL_law_841 : decode cL_law 841 = .ok (.aload_n 0, 1) := by decide +kernel
theorem dL_law_842 : decode cL_law 842 = .ok (.iload 4, 2) := by decide +kernel
theorem dL_law_844 : decode cL_law 844 = .ok (.iconst 2, 1) := by decide +kernel
theorem dL_law_845 : decode cL_law 845 = .ok (.iadd, 1) := by decide +kernel
theorem dL_law_846 : decode cL_law 846 = .ok (.iaload, 1) := by decide +kernel
theorem dL_law_847 : decode cL_law 847 = .ok (.aload_n 0, 1) := by decide +kernel
theorem dL_law_848 : decode cL_law 848 = .ok (.iload 4, 2) := by decide +kernel
theorem dL_law_850 : decode cL_law 850 = .ok (.iconst 3, 1) := by decide +kernel
theorem dL_law_851 : decode cL_law 851 = .ok (.iadd, 1) := by decide +kernel
theorem dL_law_852 : decode cL_law 852 = .ok (.iaload, 1) := by decide +kernel
theorem dL_law_853 : decode cL_law 853 = .ok (.invokevirtual 103, 3) := by decide +kernel
theorem dL_law_856 : decode cL_law 856 = .ok (.if_icmp .eq 385, 3) := by decide +kernel
theorem dL_law_859 : decode cL_law 859 = .ok (.iconst 0, 1) := by decide +kernel
theorem dL_law_860 : decode cL_law 860 = .ok (.ireturn, 1) := by decide +kernel
theorem dL_law_861 : decode cL_law 861 = .ok (.aload_n 1, 1) := by decide +kernel
theorem dL_law_862 : decode cL_law 862 = .ok (.aload_n 0, 1) := by decide +kernel
theorem dL_law_863 : decode cL_law 863 = .ok (.iload 4, 2) := by decide +kernel
theorem dL_law_865 : decode cL_law 865 = .ok (.iconst 1, 1) := by decide +kernel
theorem dL_law_866 : decode cL_law 866 = .ok (.iadd, 1) := by decide +kernel
theorem dL_law_867 : decode cL_law 867 = .ok (.iaload, 1) := by decide +kernel
theorem dL_law_868 : decode cL_law 868 = .ok (.aload_n 0, 1) := by decide +kernel
theorem dL_law_869 : decode cL_law 869 = .ok (.iload 4, 2) := by decide +kernel
theorem dL_law_871 : decode cL_law 871 = .ok (.iconst 2, 1) := by decide +kernel
theorem dL_law_872 : decode cL_law 872 = .ok (.iadd, 1) := by decide +kernel
theorem dL_law_873 : decode cL_law 873 = .ok (.iaload, 1) := by decide +kernel
theorem dL_law_874 : decode cL_law 874 = .ok (.invokevirtual 104, 3) := by decide +kernel
theorem dL_law_877 : decode cL_law 877 = .ok (.aload_n 2, 1) := by decide +kernel
theorem dL_law_878 : decode cL_law 878 = .ok (.aload_n 0, 1) := by decide +kernel
theorem dL_law_879 : decode cL_law 879 = .ok (.iload 4, 2) := by decide +kernel
theorem dL_law_881 : decode cL_law 881 = .ok (.iconst 1, 1) := by decide +kernel
theorem dL_law_882 : decode cL_law 882 = .ok (.iadd, 1) := by decide +kernel
theorem dL_law_883 : decode cL_law 883 = .ok (.iaload, 1) := by decide +kernel
theorem dL_law_884 : decode cL_law 884 = .ok (.aload_n 0, 1) := by decide +kernel
theorem dL_law_885 : decode cL_law 885 = .ok (.iload 4, 2) := by decide +kernel
theorem dL_law_887 : decode cL_law 887 = .ok (.iconst 2, 1) := by decide +kernel
theorem dL_law_888 : decode cL_law 888 = .ok (.iadd, 1) := by decide +kernel
theorem dL_law_889 : decode cL_law 889 = .ok (.iaload, 1) := by decide +kernel
theorem dL_law_890 : decode cL_law 890 = .ok (.invokevirtual 107, 3) := by decide +kernel
theorem dL_law_893 : decode cL_law 893 = .ok (.if_icmp .eq 348, 3) := by decide +kernel
theorem dL_law_896 : decode cL_law 896 = .ok (.iconst 0, 1) := by decide +kernel
theorem dL_law_897 : decode cL_law 897 = .ok (.ireturn, 1) := by decide +kernel
theorem dL_law_898 : decode cL_law 898 = .ok (.aload_n 1, 1) := by decide +kernel
theorem dL_law_899 : decode cL_law 899 = .ok (.aload_n 0, 1) := by decide +kernel
theorem dL_law_900 : decode cL_law 900 = .ok (.iload 4, 2) := by decide +kernel
theorem dL_law_902 : decode cL_law 902 = .ok (.iconst 1, 1) := by decide +kernel
theorem dL_law_903 : decode cL_law 903 = .ok (.iadd, 1) := by decide +kernel
theorem dL_law_904 : decode cL_law 904 = .ok (.iaload, 1) := by decide +kernel
theorem dL_law_905 : decode cL_law 905 = .ok (.aload_n 0, 1) := by decide +kernel
theorem dL_law_906 : decode cL_law 906 = .ok (.iload 4, 2) := by decide +kernel
theorem dL_law_908 : decode cL_law 908 = .ok (.iconst 2, 1) := by decide +kernel
theorem dL_law_909 : decode cL_law 909 = .ok (.iadd, 1) := by decide +kernel
theorem dL_law_910 : decode cL_law 910 = .ok (.iaload, 1) := by decide +kernel
theorem dL_law_911 : decode cL_law 911 = .ok (.aload_n 0, 1) := by decide +kernel
theorem dL_law_912 : decode cL_law 912 = .ok (.iload 4, 2) := by decide +kernel
theorem dL_law_914 : decode cL_law 914 = .ok (.iconst 3, 1) := by decide +kernel
theorem dL_law_915 : decode cL_law 915 = .ok (.iadd, 1) := by decide +kernel
theorem dL_law_916 : decode cL_law 916 = .ok (.iaload, 1) := by decide +kernel
theorem dL_law_917 : decode cL_law 917 = .ok (.aload_n 0, 1) := by decide +kernel
theorem dL_law_918 : decode cL_law 918 = .ok (.iload 4, 2) := by decide +kernel
theorem dL_law_920 : decode cL_law 920 = .ok (.iconst 4, 1) := by decide +kernel
theorem dL_law_921 : decode cL_law 921 = .ok (.iadd, 1) := by decide +kernel
theorem dL_law_922 : decode cL_law 922 = .ok (.iaload, 1) := by decide +kernel
theorem dL_law_923 : decode cL_law 923 = .ok (.invokevirtual 108, 3) := by decide +kernel
theorem dL_law_926 : decode cL_law 926 = .ok (.aload_n 2, 1) := by decide +kernel
theorem dL_law_927 : decode cL_law 927 = .ok (.aload_n 0, 1) := by decide +kernel
theorem dL_law_928 : decode cL_law 928 = .ok (.iload 4, 2) := by decide +kernel
theorem dL_law_930 : decode cL_law 930 = .ok (.iconst 1, 1) := by decide +kernel
theorem dL_law_931 : decode cL_law 931 = .ok (.iadd, 1) := by decide +kernel
theorem dL_law_932 : decode cL_law 932 = .ok (.iaload, 1) := by decide +kernel
theorem dL_law_933 : decode cL_law 933 = .ok (.aload_n 0, 1) := by decide +kernel
theorem dL_law_934 : decode cL_law 934 = .ok (.iload 4, 2) := by decide +kernel
theorem dL_law_936 : decode cL_law 936 = .ok (.iconst 2, 1) := by decide +kernel
theorem dL_law_937 : decode cL_law 937 = .ok (.iadd, 1) := by decide +kernel
theorem dL_law_938 : decode cL_law 938 = .ok (.iaload, 1) := by decide +kernel
theorem dL_law_939 : decode cL_law 939 = .ok (.aload_n 0, 1) := by decide +kernel
theorem dL_law_940 : decode cL_law 940 = .ok (.iload 4, 2) := by decide +kernel
theorem dL_law_942 : decode cL_law 942 = .ok (.iconst 3, 1) := by decide +kernel
theorem dL_law_943 : decode cL_law 943 = .ok (.iadd, 1) := by decide +kernel
theorem dL_law_944 : decode cL_law 944 = .ok (.iaload, 1) := by decide +kernel
theorem dL_law_945 : decode cL_law 945 = .ok (.aload_n 0, 1) := by decide +kernel
theorem dL_law_946 : decode cL_law 946 = .ok (.iload 4, 2) := by decide +kernel
theorem dL_law_948 : decode cL_law 948 = .ok (.iconst 4, 1) := by decide +kernel
theorem dL_law_949 : decode cL_law 949 = .ok (.iadd, 1) := by decide +kernel
theorem dL_law_950 : decode cL_law 950 = .ok (.iaload, 1) := by decide +kernel
theorem dL_law_951 : decode cL_law 951 = .ok (.invokevirtual 111, 3) := by decide +kernel
theorem dL_law_954 : decode cL_law 954 = .ok (.if_icmp .eq 287, 3) := by decide +kernel
theorem dL_law_957 : decode cL_law 957 = .ok (.iconst 0, 1) := by decide +kernel
theorem dL_law_958 : decode cL_law 958 = .ok (.ireturn, 1) := by decide +kernel
theorem dL_law_959 : decode cL_law 959 = .ok (.aload_n 1, 1) := by decide +kernel
theorem dL_law_960 : decode cL_law 960 = .ok (.aload_n 0, 1) := by decide +kernel
theorem dL_law_961 : decode cL_law 961 = .ok (.iload 4, 2) := by decide +kernel
theorem dL_law_963 : decode cL_law 963 = .ok (.iconst 1, 1) := by decide +kernel
theorem dL_law_964 : decode cL_law 964 = .ok (.iadd, 1) := by decide +kernel
theorem dL_law_965 : decode cL_law 965 = .ok (.iaload, 1) := by decide +kernel
theorem dL_law_966 : decode cL_law 966 = .ok (.aload_n 0, 1) := by decide +kernel
theorem dL_law_967 : decode cL_law 967 = .ok (.iload 4, 2) := by decide +kernel
theorem dL_law_969 : decode cL_law 969 = .ok (.iconst 2, 1) := by decide +kernel
theorem dL_law_970 : decode cL_law 970 = .ok (.iadd, 1) := by decide +kernel
theorem dL_law_971 : decode cL_law 971 = .ok (.iaload, 1) := by decide +kernel
theorem dL_law_972 : decode cL_law 972 = .ok (.invokevirtual 112, 3) := by decide +kernel
theorem dL_law_975 : decode cL_law 975 = .ok (.aload_n 2, 1) := by decide +kernel
theorem dL_law_976 : decode cL_law 976 = .ok (.aload_n 0, 1) := by decide +kernel
theorem dL_law_977 : decode cL_law 977 = .ok (.iload 4, 2) := by decide +kernel
theorem dL_law_979 : decode cL_law 979 = .ok (.iconst 1, 1) := by decide +kernel
theorem dL_law_980 : decode cL_law 980 = .ok (.iadd, 1) := by decide +kernel
theorem dL_law_981 : decode cL_law 981 = .ok (.iaload, 1) := by decide +kernel
theorem dL_law_982 : decode cL_law 982 = .ok (.aload_n 0, 1) := by decide +kernel
theorem dL_law_983 : decode cL_law 983 = .ok (.iload 4, 2) := by decide +kernel
theorem dL_law_985 : decode cL_law 985 = .ok (.iconst 2, 1) := by decide +kernel
theorem dL_law_986 : decode cL_law 986 = .ok (.iadd, 1) := by decide +kernel
theorem dL_law_987 : decode cL_law 987 = .ok (.iaload, 1) := by decide +kernel
theorem dL_law_988 : decode cL_law 988 = .ok (.invokevirtual 115, 3) := by decide +kernel
theorem dL_law_991 : decode cL_law 991 = .ok (.if_icmp .eq 250, 3) := by decide +kernel
theorem dL_law_994 : decode cL_law 994 = .ok (.iconst 0, 1) := by decide +kernel
theorem dL_law_995 : decode cL_law 995 = .ok (.ireturn, 1) := by decide +kernel
theorem dL_law_996 : decode cL_law 996 = .ok (.aload_n 1, 1) := by decide +kernel
theorem dL_law_997 : decode cL_law 997 = .ok (.aload_n 0, 1) := by decide +kernel
theorem dL_law_998 : decode cL_law 998 = .ok (.iload 4, 2) := by decide +kernel
theorem dL_law_1000 : decode cL_law 1000 = .ok (.iconst 1, 1) := by decide +kernel
theorem dL_law_1001 : decode cL_law 1001 = .ok (.iadd, 1) := by decide +kernel
theorem dL_law_1002 : decode cL_law 1002 = .ok (.iaload, 1) := by decide +kernel
theorem dL_law_1003 : decode cL_law 1003 = .ok (.aload_n 0, 1) := by decide +kernel
theorem dL_law_1004 : decode cL_law 1004 = .ok (.iload 4, 2) := by decide +kernel
theorem dL_law_1006 : decode cL_law 1006 = .ok (.iconst 2, 1) := by decide +kernel
theorem dL_law_1007 : decode cL_law 1007 = .ok (.iadd, 1) := by decide +kernel
theorem dL_law_1008 : decode cL_law 1008 = .ok (.iaload, 1) := by decide +kernel
theorem dL_law_1009 : decode cL_law 1009 = .ok (.invokevirtual 116, 3) := by decide +kernel
theorem dL_law_1012 : decode cL_law 1012 = .ok (.aload_n 2, 1) := by decide +kernel
theorem dL_law_1013 : decode cL_law 1013 = .ok (.aload_n 0, 1) := by decide +kernel
theorem dL_law_1014 : decode cL_law 1014 = .ok (.iload 4, 2) := by decide +kernel
theorem dL_law_1016 : decode cL_law 1016 = .ok (.iconst 1, 1) := by decide +kernel
theorem dL_law_1017 : decode cL_law 1017 = .ok (.iadd, 1) := by decide +kernel
theorem dL_law_1018 : decode cL_law 1018 = .ok (.iaload, 1) := by decide +kernel
theorem dL_law_1019 : decode cL_law 1019 = .ok (.aload_n 0, 1) := by decide +kernel
theorem dL_law_1020 : decode cL_law 1020 = .ok (.iload 4, 2) := by decide +kernel
theorem dL_law_1022 : decode cL_law 1022 = .ok (.iconst 2, 1) := by decide +kernel
theorem dL_law_1023 : decode cL_law 1023 = .ok (.iadd, 1) := by decide +kernel
theorem dL_law_1024 : decode cL_law 1024 = .ok (.iaload, 1) := by decide +kernel
theorem dL_law_1025 : decode cL_law 1025 = .ok (.invokevirtual 119, 3) := by decide +kernel
theorem dL_law_1028 : decode cL_law 1028 = .ok (.if_icmp .eq 213, 3) := by decide +kernel
theorem dL_law_1031 : decode cL_law 1031 = .ok (.iconst 0, 1) := by decide +kernel
theorem dL_law_1032 : decode cL_law 1032 = .ok (.ireturn, 1) := by decide +kernel
theorem dL_law_1033 : decode cL_law 1033 = .ok (.aload_n 1, 1) := by decide +kernel
theorem dL_law_1034 : decode cL_law 1034 = .ok (.aload_n 0, 1) := by decide +kernel
theorem dL_law_1035 : decode cL_law 1035 = .ok (.iload 4, 2) := by decide +kernel
theorem dL_law_1037 : decode cL_law 1037 = .ok (.iconst 1, 1) := by decide +kernel
theorem dL_law_1038 : decode cL_law 1038 = .ok (.iadd, 1) := by decide +kernel
theorem dL_law_1039 : decode cL_law 1039 = .ok (.iaload, 1) := by decide +kernel
theorem dL_law_1040 : decode cL_law 1040 = .ok (.aload_n 0, 1) := by decide +kernel
theorem dL_law_1041 : decode cL_law 1041 = .ok (.iload 4, 2) := by decide +kernel
theorem dL_law_1043 : decode cL_law 1043 = .ok (.iconst 2, 1) := by decide +kernel
theorem dL_law_1044 : decode cL_law 1044 = .ok (.iadd, 1) := by decide +kernel
theorem dL_law_1045 : decode cL_law 1045 = .ok (.iaload, 1) := by decide +kernel
theorem dL_law_1046 : decode cL_law 1046 = .ok (.aload_n 0, 1) := by decide +kernel
theorem dL_law_1047 : decode cL_law 1047 = .ok (.iload 4, 2) := by decide +kernel
theorem dL_law_1049 : decode cL_law 1049 = .ok (.iconst 3, 1) := by decide +kernel
theorem dL_law_1050 : decode cL_law 1050 = .ok (.iadd, 1) := by decide +kernel
theorem dL_law_1051 : decode cL_law 1051 = .ok (.iaload, 1) := by decide +kernel
theorem dL_law_1052 : decode cL_law 1052 = .ok (.invokevirtual 120, 3) := by decide +kernel
theorem dL_law_1055 : decode cL_law 1055 = .ok (.aload_n 2, 1) := by decide +kernel
theorem dL_law_1056 : decode cL_law 1056 = .ok (.aload_n 0, 1) := by decide +kernel
theorem dL_law_1057 : decode cL_law 1057 = .ok (.iload 4, 2) := by decide +kernel
theorem dL_law_1059 : decode cL_law 1059 = .ok (.iconst 1, 1) := by decide +kernel
theorem dL_law_1060 : decode cL_law 1060 = .ok (.iadd, 1) := by decide +kernel
theorem dL_law_1061 : decode cL_law 1061 = .ok (.iaload, 1) := by decide +kernel
theorem dL_law_1062 : decode cL_law 1062 = .ok (.aload_n 0, 1) := by decide +kernel
theorem dL_law_1063 : decode cL_law 1063 = .ok (.iload 4, 2) := by decide +kernel
theorem dL_law_1065 : decode cL_law 1065 = .ok (.iconst 2, 1) := by decide +kernel
theorem dL_law_1066 : decode cL_law 1066 = .ok (.iadd, 1) := by decide +kernel
theorem dL_law_1067 : decode cL_law 1067 = .ok (.iaload, 1) := by decide +kernel
theorem dL_law_1068 : decode cL_law 1068 = .ok (.aload_n 0, 1) := by decide +kernel
theorem dL_law_1069 : decode cL_law 1069 = .ok (.iload 4, 2) := by decide +kernel
theorem dL_law_1071 : decode cL_law 1071 = .ok (.iconst 3, 1) := by decide +kernel
theorem dL_law_1072 : decode cL_law 1072 = .ok (.iadd, 1) := by decide +kernel
theorem dL_law_1073 : decode cL_law 1073 = .ok (.iaload, 1) := by decide +kernel
theorem dL_law_1074 : decode cL_law 1074 = .ok (.invokevirtual 123, 3) := by decide +kernel
theorem dL_law_1077 : decode cL_law 1077 = .ok (.if_icmp .eq 164, 3) := by decide +kernel
theorem dL_law_1080 : decode cL_law 1080 = .ok (.iconst 0, 1) := by decide +kernel
theorem dL_law_1081 : decode cL_law 1081 = .ok (.ireturn, 1) := by decide +kernel
theorem dL_law_1082 : decode cL_law 1082 = .ok (.aload_n 1, 1) := by decide +kernel
theorem dL_law_1083 : decode cL_law 1083 = .ok (.aload_n 0, 1) := by decide +kernel
theorem dL_law_1084 : decode cL_law 1084 = .ok (.iload 4, 2) := by decide +kernel
theorem dL_law_1086 : decode cL_law 1086 = .ok (.iconst 1, 1) := by decide +kernel
theorem dL_law_1087 : decode cL_law 1087 = .ok (.iadd, 1) := by decide +kernel
theorem dL_law_1088 : decode cL_law 1088 = .ok (.iaload, 1) := by decide +kernel
theorem dL_law_1089 : decode cL_law 1089 = .ok (.aload_n 0, 1) := by decide +kernel
theorem dL_law_1090 : decode cL_law 1090 = .ok (.iload 4, 2) := by decide +kernel
theorem dL_law_1092 : decode cL_law 1092 = .ok (.iconst 2, 1) := by decide +kernel
theorem dL_law_1093 : decode cL_law 1093 = .ok (.iadd, 1) := by decide +kernel
theorem dL_law_1094 : decode cL_law 1094 = .ok (.iaload, 1) := by decide +kernel
theorem dL_law_1095 : decode cL_law 1095 = .ok (.aload_n 0, 1) := by decide +kernel
theorem dL_law_1096 : decode cL_law 1096 = .ok (.iload 4, 2) := by decide +kernel
theorem dL_law_1098 : decode cL_law 1098 = .ok (.iconst 3, 1) := by decide +kernel
theorem dL_law_1099 : decode cL_law 1099 = .ok (.iadd, 1) := by decide +kernel
theorem dL_law_1100 : decode cL_law 1100 = .ok (.iaload, 1) := by decide +kernel
theorem dL_law_1101 : decode cL_law 1101 = .ok (.aload_n 0, 1) := by decide +kernel
theorem dL_law_1102 : decode cL_law 1102 = .ok (.iload 4, 2) := by decide +kernel
theorem dL_law_1104 : decode cL_law 1104 = .ok (.iconst 4, 1) := by decide +kernel
theorem dL_law_1105 : decode cL_law 1105 = .ok (.iadd, 1) := by decide +kernel
theorem dL_law_1106 : decode cL_law 1106 = .ok (.iaload, 1) := by decide +kernel
theorem dL_law_1107 : decode cL_law 1107 = .ok (.invokevirtual 124, 3) := by decide +kernel
theorem dL_law_1110 : decode cL_law 1110 = .ok (.aload_n 2, 1) := by decide +kernel
theorem dL_law_1111 : decode cL_law 1111 = .ok (.aload_n 0, 1) := by decide +kernel
theorem dL_law_1112 : decode cL_law 1112 = .ok (.iload 4, 2) := by decide +kernel
theorem dL_law_1114 : decode cL_law 1114 = .ok (.iconst 1, 1) := by decide +kernel
theorem dL_law_1115 : decode cL_law 1115 = .ok (.iadd, 1) := by decide +kernel
theorem dL_law_1116 : decode cL_law 1116 = .ok (.iaload, 1) := by decide +kernel
theorem dL_law_1117 : decode cL_law 1117 = .ok (.aload_n 0, 1) := by decide +kernel
theorem dL_law_1118 : decode cL_law 1118 = .ok (.iload 4, 2) := by decide +kernel
theorem dL_law_1120 : decode cL_law 1120 = .ok (.iconst 2, 1) := by decide +kernel
theorem dL_law_1121 : decode cL_law 1121 = .ok (.iadd, 1) := by decide +kernel
theorem dL_law_1122 : decode cL_law 1122 = .ok (.iaload, 1) := by decide +kernel
theorem dL_law_1123 : decode cL_law 1123 = .ok (.aload_n 0, 1) := by decide +kernel
theorem dL_law_1124 : decode cL_law 1124 = .ok (.iload 4, 2) := by decide +kernel
theorem dL_law_1126 : decode cL_law 1126 = .ok (.iconst 3, 1) := by decide +kernel
theorem dL_law_1127 : decode cL_law 1127 = .ok (.iadd, 1) := by decide +kernel
theorem dL_law_1128 : decode cL_law 1128 = .ok (.iaload, 1) := by decide +kernel
theorem dL_law_1129 : decode cL_law 1129 = .ok (.aload_n 0, 1) := by decide +kernel
theorem dL_law_1130 : decode cL_law 1130 = .ok (.iload 4, 2) := by decide +kernel
theorem dL_law_1132 : decode cL_law 1132 = .ok (.iconst 4, 1) := by decide +kernel
theorem dL_law_1133 : decode cL_law 1133 = .ok (.iadd, 1) := by decide +kernel
theorem dL_law_1134 : decode cL_law 1134 = .ok (.iaload, 1) := by decide +kernel
theorem dL_law_1135 : decode cL_law 1135 = .ok (.invokevirtual 127, 3) := by decide +kernel
theorem dL_law_1138 : decode cL_law 1138 = .ok (.if_icmp .eq 103, 3) := by decide +kernel
theorem dL_law_1141 : decode cL_law 1141 = .ok (.iconst 0, 1) := by decide +kernel
theorem dL_law_1142 : decode cL_law 1142 = .ok (.ireturn, 1) := by decide +kernel
theorem dL_law_1143 : decode cL_law 1143 = .ok (.aload_n 1, 1) := by decide +kernel
theorem dL_law_1144 : decode cL_law 1144 = .ok (.aload_n 0, 1) := by decide +kernel
theorem dL_law_1145 : decode cL_law 1145 = .ok (.iload 4, 2) := by decide +kernel
theorem dL_law_1147 : decode cL_law 1147 = .ok (.iconst 1, 1) := by decide +kernel
theorem dL_law_1148 : decode cL_law 1148 = .ok (.iadd, 1) := by decide +kernel
theorem dL_law_1149 : decode cL_law 1149 = .ok (.iaload, 1) := by decide +kernel
theorem dL_law_1150 : decode cL_law 1150 = .ok (.aload_n 0, 1) := by decide +kernel
theorem dL_law_1151 : decode cL_law 1151 = .ok (.iload 4, 2) := by decide +kernel
theorem dL_law_1153 : decode cL_law 1153 = .ok (.iconst 2, 1) := by decide +kernel
theorem dL_law_1154 : decode cL_law 1154 = .ok (.iadd, 1) := by decide +kernel
theorem dL_law_1155 : decode cL_law 1155 = .ok (.iaload, 1) := by decide +kernel
theorem dL_law_1156 : decode cL_law 1156 = .ok (.aload_n 0, 1) := by decide +kernel
theorem dL_law_1157 : decode cL_law 1157 = .ok (.iload 4, 2) := by decide +kernel
theorem dL_law_1159 : decode cL_law 1159 = .ok (.iconst 3, 1) := by decide +kernel
theorem dL_law_1160 : decode cL_law 1160 = .ok (.iadd, 1) := by decide +kernel
theorem dL_law_1161 : decode cL_law 1161 = .ok (.iaload, 1) := by decide +kernel
theorem dL_law_1162 : decode cL_law 1162 = .ok (.invokevirtual 128, 3) := by decide +kernel
theorem dL_law_1165 : decode cL_law 1165 = .ok (.aload_n 2, 1) := by decide +kernel
theorem dL_law_1166 : decode cL_law 1166 = .ok (.aload_n 0, 1) := by decide +kernel
theorem dL_law_1167 : decode cL_law 1167 = .ok (.iload 4, 2) := by decide +kernel
theorem dL_law_1169 : decode cL_law 1169 = .ok (.iconst 1, 1) := by decide +kernel
theorem dL_law_1170 : decode cL_law 1170 = .ok (.iadd, 1) := by decide +kernel
theorem dL_law_1171 : decode cL_law 1171 = .ok (.iaload, 1) := by decide +kernel
theorem dL_law_1172 : decode cL_law 1172 = .ok (.aload_n 0, 1) := by decide +kernel
theorem dL_law_1173 : decode cL_law 1173 = .ok (.iload 4, 2) := by decide +kernel
theorem dL_law_1175 : decode cL_law 1175 = .ok (.iconst 2, 1) := by decide +kernel
theorem dL_law_1176 : decode cL_law 1176 = .ok (.iadd, 1) := by decide +kernel
theorem dL_law_1177 : decode cL_law 1177 = .ok (.iaload, 1) := by decide +kernel
theorem dL_law_1178 : decode cL_law 1178 = .ok (.aload_n 0, 1) := by decide +kernel
theorem dL_law_1179 : decode cL_law 1179 = .ok (.iload 4, 2) := by decide +kernel
theorem dL_law_1181 : decode cL_law 1181 = .ok (.iconst 3, 1) := by decide +kernel
theorem dL_law_1182 : decode cL_law 1182 = .ok (.iadd, 1) := by decide +kernel
theorem dL_law_1183 : decode cL_law 1183 = .ok (.iaload, 1) := by decide +kernel
theorem dL_law_1184 : decode cL_law 1184 = .ok (.invokevirtual 131, 3) := by decide +kernel
theorem dL_law_1187 : decode cL_law 1187 = .ok (.if_icmp .eq 54, 3) := by decide +kernel
theorem dL_law_1190 : decode cL_law 1190 = .ok (.iconst 0, 1) := by decide +kernel
theorem dL_law_1191 : decode cL_law 1191 = .ok (.ireturn, 1) := by decide +kernel
theorem dL_law_1192 : decode cL_law 1192 = .ok (.aload_n 1, 1) := by decide +kernel
theorem dL_law_1193 : decode cL_law 1193 = .ok (.aload_n 0, 1) := by decide +kernel
theorem dL_law_1194 : decode cL_law 1194 = .ok (.iload 4, 2) := by decide +kernel
theorem dL_law_1196 : decode cL_law 1196 = .ok (.iconst 1, 1) := by decide +kernel
theorem dL_law_1197 : decode cL_law 1197 = .ok (.iadd, 1) := by decide +kernel
theorem dL_law_1198 : decode cL_law 1198 = .ok (.iaload, 1) := by decide +kernel
theorem dL_law_1199 : decode cL_law 1199 = .ok (.aload_n 0, 1) := by decide +kernel
theorem dL_law_1200 : decode cL_law 1200 = .ok (.iload 4, 2) := by decide +kernel
theorem dL_law_1202 : decode cL_law 1202 = .ok (.iconst 2, 1) := by decide +kernel
theorem dL_law_1203 : decode cL_law 1203 = .ok (.iadd, 1) := by decide +kernel
theorem dL_law_1204 : decode cL_law 1204 = .ok (.iaload, 1) := by decide +kernel
theorem dL_law_1205 : decode cL_law 1205 = .ok (.aload_n 0, 1) := by decide +kernel
theorem dL_law_1206 : decode cL_law 1206 = .ok (.iload 4, 2) := by decide +kernel
theorem dL_law_1208 : decode cL_law 1208 = .ok (.iconst 3, 1) := by decide +kernel
theorem dL_law_1209 : decode cL_law 1209 = .ok (.iadd, 1) := by decide +kernel
theorem dL_law_1210 : decode cL_law 1210 = .ok (.iaload, 1) := by decide +kernel
theorem dL_law_1211 : decode cL_law 1211 = .ok (.invokevirtual 132, 3) := by decide +kernel
theorem dL_law_1214 : decode cL_law 1214 = .ok (.aload_n 2, 1) := by decide +kernel
theorem dL_law_1215 : decode cL_law 1215 = .ok (.aload_n 0, 1) := by decide +kernel
theorem dL_law_1216 : decode cL_law 1216 = .ok (.iload 4, 2) := by decide +kernel
theorem dL_law_1218 : decode cL_law 1218 = .ok (.iconst 1, 1) := by decide +kernel
theorem dL_law_1219 : decode cL_law 1219 = .ok (.iadd, 1) := by decide +kernel
theorem dL_law_1220 : decode cL_law 1220 = .ok (.iaload, 1) := by decide +kernel
theorem dL_law_1221 : decode cL_law 1221 = .ok (.aload_n 0, 1) := by decide +kernel
theorem dL_law_1222 : decode cL_law 1222 = .ok (.iload 4, 2) := by decide +kernel
theorem dL_law_1224 : decode cL_law 1224 = .ok (.iconst 2, 1) := by decide +kernel
theorem dL_law_1225 : decode cL_law 1225 = .ok (.iadd, 1) := by decide +kernel
theorem dL_law_1226 : decode cL_law 1226 = .ok (.iaload, 1) := by decide +kernel
theorem dL_law_1227 : decode cL_law 1227 = .ok (.aload_n 0, 1) := by decide +kernel
theorem dL_law_1228 : decode cL_law 1228 = .ok (.iload 4, 2) := by decide +kernel
theorem dL_law_1230 : decode cL_law 1230 = .ok (.iconst 3, 1) := by decide +kernel
theorem dL_law_1231 : decode cL_law 1231 = .ok (.iadd, 1) := by decide +kernel
theorem dL_law_1232 : decode cL_law 1232 = .ok (.iaload, 1) := by decide +kernel
theorem dL_law_1233 : decode cL_law 1233 = .ok (.invokevirtual 135, 3) := by decide +kernel
theorem dL_law_1236 : decode cL_law 1236 = .ok (.if_icmp .eq 5, 3) := by decide +kernel
theorem dL_law_1239 : decode cL_law 1239 = .ok (.iconst 0, 1) := by decide +kernel
theorem dL_law_1240 : decode cL_law 1240 = .ok (.ireturn, 1) := by decide +kernel
theorem dL_law_1241 : decode cL_law 1241 = .ok (.iinc 4 6, 3) := by decide +kernel
theorem dL_law_1244 : decode cL_law 1244 = .ok (.goto (-1221), 3) := by decide +kernel
theorem dL_law_1247 : decode cL_law 1247 = .ok (.iconst 1, 1) := by decide +kernel
theorem dL_law_1248 : decode cL_law 1248 = .ok (.ireturn, 1) := by decide +kernel

section LW
variable {G : mG} {pc i nc ns : Nat} {l5 l6 : Option Value} {st : List Value} {σ : mS} {Q : mQ}
/-- the law's locals -/
abbrev lwL (i : Nat) (l5 l6 : Option Value) : List (Option Value) := [some (.ref 2), some (.ref 3), some (.ref 116), some (.ref 132), some (.int (nI i)), l5, l6]
/-- at pc of the law -/
def mE (G : mG) (pc : Nat) (lo : List (Option Value)) (st : List Value) (σ : mS) (nc ns : Nat) (Q : mQ) : Prop := mT G mL_law 1399 601024 7293034 pc lo st (mFz σ) false nc ns Q
theorem nI_add2 (a b : Nat) : nI a + nI b = nI (a + b) := by simp [nI, Int32.ofNat_add]
/-- an argument -/
theorem L_arg {j : Nat} {n : Int} (hN : gN G < 2 ^ 31) (hi : i + j < gN G) (h0 : decode cL_law pc = .ok (.aload_n 0, 1)) (h1 : decode cL_law (pc + 1) = .ok (.iload 4, 2)) (h2 : decode cL_law (pc + 1 + 2) = .ok (.iconst n, 1)) (hn : Int32.ofInt n = nI j) (h3 : decode cL_law (pc + 1 + 2 + 1) = .ok (.iadd, 1)) (h4 : decode cL_law (pc + 1 + 2 + 1 + 1) = .ok (.iaload, 1)) (k : mE G (pc + 1 + 2 + 1 + 1 + 1) (lwL i l5 l6) (.int (gS G (i + j)) :: st) σ nc ns Q) : mE G pc (lwL i l5 l6) st σ nc ns Q := by
  refine T_aload_n h0 rfl ?_
  refine T_iload h1 rfl ?_
  refine T_iconst (v := nI j) h2 hn ?_
  refine T_iadd h3 ?_
  rw [nI_add2]
  refine T_ialoadX (a := 2) h4 (by decide) (vp_in_nI hi hN) ?_
  rw [nI_clamp (by omega)]
  exact k
/-- a call of the book's or the reference's -/
theorem L_call {a ci kd p d1 : Nat} {as : List Value} {J : mI} {fs : List (Option Nat)} {r0 : vw_C} {r : Option Value} {σ1 : mS} {lo : List (Option Value)} (hC : mV G J d1 (.ref a :: as) σ r σ1) (hd : decode cL_law pc = .ok (.invokevirtual p, 3)) (hf : (mCa 6).lookup p = some (kd, J)) (hkd : kd = 1 ∨ kd = 4) (hs : sh a = some (.inl (ci, fs))) (hci : mCl[ci]? = some r0) (hcl : r0.1 = J.1.cls) (hnp : as.length = J.2.2.2.2.2) (hml : as.length + 1 ≤ J.2.2.1 ∧ J.2.2.1 ≤ 40) (hcat : ∀ v ∈ as, v.category = 1) (hst : (st.map fun v => v.category).sum ≤ 8) (hdd : d1 < 1399) (hc : nc ≤ 601024) (hs2 : ns ≤ 7293034) (k : mE G (pc + 3) lo (r.toList ++ st) σ1 nc ns Q) : mE G pc lo (as.reverse ++ .ref a :: st) σ nc ns Q := by
  obtain ⟨n, rfl, hn⟩ := sh_c hs
  refine T_callV (I := mL_law) (mc1 := 0) (ms1 := 0) hd rfl hf hkd (mFz_get hn) hci hcl hnp hml hcat hst hdd hc hs2 hC ?_ ?_
  · intro r1 μ1 ex1 h1 h2
    rw [h1.1] at h2
    cases h2
  · intro r1 μ1 ex1 h1
    obtain ⟨h2, σ2, h3, h4, h5⟩ := h1
    rw [h2, h3, h4, h5]
    exact k

theorem lw_0 (hN : gN G < 2 ^ 31) (hi : i + 5 < gN G) (h : Rel σ) (hc : nc ≤ 601024) (hs : ns ≤ 7293034) (k1 : ∀ σ2 nc2 ns2 l5 l6, Rel σ2 → nc2 ≤ nc + 1 → ns2 ≤ ns + 6 → mE G 1241 (lwL i l5 l6) [] σ2 nc2 ns2 Q) : mE G 160 (lwL i l5 l6) [] σ nc ns Q := by
  obtain ⟨r, σ1, σ2, h1, h2, h3⟩ := op_feed (G := G) h (gS G (i + 1)) (gS G (i + 2)) (gS G (i + 3)) (gS G (i + 4)) (gS G (i + 5))
  refine T_aload_n dL_law_160 rfl ?_
  refine L_arg (j := 1) hN (by omega) dL_law_161 dL_law_162 dL_law_164 rfl dL_law_165 dL_law_166 ?_
  refine L_arg (j := 2) hN (by omega) dL_law_167 dL_law_168 dL_law_170 rfl dL_law_171 dL_law_172 ?_
  refine L_arg (j := 3) hN (by omega) dL_law_173 dL_law_174 dL_law_176 rfl dL_law_177 dL_law_178 ?_
  refine L_arg (j := 4) hN (by omega) dL_law_179 dL_law_180 dL_law_182 rfl dL_law_183 dL_law_184 ?_
  refine L_arg (j := 5) hN (by omega) dL_law_185 dL_law_186 dL_law_188 rfl dL_law_189 dL_law_190 ?_
  refine L_call (as := [.int (gS G (i + 1)), .int (gS G (i + 2)), .int (gS G (i + 3)), .int (gS G (i + 4)), .int (gS G (i + 5))]) h1 dL_law_191 rfl (by decide) rfl rfl rfl rfl ⟨(Nat.le_of_ble_eq_true rfl), (Nat.le_of_ble_eq_true rfl)⟩ (by intro v hv; simp at hv; rcases hv with rfl | rfl | rfl | rfl | rfl <;> rfl) (Nat.le_of_ble_eq_true rfl) (Nat.le_of_ble_eq_true rfl) hc hs ?_
  refine T_aload_n dL_law_194 rfl ?_
  refine L_arg (j := 1) hN (by omega) dL_law_195 dL_law_196 dL_law_198 rfl dL_law_199 dL_law_200 ?_
  refine L_arg (j := 2) hN (by omega) dL_law_201 dL_law_202 dL_law_204 rfl dL_law_205 dL_law_206 ?_
  refine L_arg (j := 3) hN (by omega) dL_law_207 dL_law_208 dL_law_210 rfl dL_law_211 dL_law_212 ?_
  refine L_arg (j := 4) hN (by omega) dL_law_213 dL_law_214 dL_law_216 rfl dL_law_217 dL_law_218 ?_
  refine L_arg (j := 5) hN (by omega) dL_law_219 dL_law_220 dL_law_222 rfl dL_law_223 dL_law_224 ?_
  refine L_call (as := [.int (gS G (i + 1)), .int (gS G (i + 2)), .int (gS G (i + 3)), .int (gS G (i + 4)), .int (gS G (i + 5))]) h2 dL_law_225 rfl (by decide) rfl rfl rfl rfl ⟨(Nat.le_of_ble_eq_true rfl), (Nat.le_of_ble_eq_true rfl)⟩ (by intro v hv; simp at hv; rcases hv with rfl | rfl | rfl | rfl | rfl <;> rfl) (Nat.le_of_ble_eq_true rfl) (Nat.le_of_ble_eq_true rfl) hc hs ?_
  exact T_icmp_eq (tgt := 1241) dL_law_228 rfl (fun _ => k1 σ2 nc ns l5 l6 h3 (by omega) (by omega)) (fun z => absurd rfl z)
theorem lw_1 (hN : gN G < 2 ^ 31) (hi : i + 5 < gN G) (h : Rel σ) (hc : nc ≤ 601024) (hs : ns ≤ 7293034) (k1 : ∀ σ2 nc2 ns2 l5 l6, Rel σ2 → nc2 ≤ nc + 1 → ns2 ≤ ns + 6 → mE G 1241 (lwL i l5 l6) [] σ2 nc2 ns2 Q) : mE G 233 (lwL i l5 l6) [] σ nc ns Q := by
  obtain ⟨r, σ1, σ2, h1, h2, h3⟩ := op_end (G := G) h (gS G (i + 1))
  refine T_aload_n dL_law_233 rfl ?_
  refine L_arg (j := 1) hN (by omega) dL_law_234 dL_law_235 dL_law_237 rfl dL_law_238 dL_law_239 ?_
  refine L_call (as := [.int (gS G (i + 1))]) h1 dL_law_240 rfl (by decide) rfl rfl rfl rfl ⟨(Nat.le_of_ble_eq_true rfl), (Nat.le_of_ble_eq_true rfl)⟩ (by intro v hv; simp at hv; rw [hv]; rfl) (Nat.le_of_ble_eq_true rfl) (Nat.le_of_ble_eq_true rfl) hc hs ?_
  refine T_aload_n dL_law_243 rfl ?_
  refine L_arg (j := 1) hN (by omega) dL_law_244 dL_law_245 dL_law_247 rfl dL_law_248 dL_law_249 ?_
  refine L_call (as := [.int (gS G (i + 1))]) h2 dL_law_250 rfl (by decide) rfl rfl rfl rfl ⟨(Nat.le_of_ble_eq_true rfl), (Nat.le_of_ble_eq_true rfl)⟩ (by intro v hv; simp at hv; rw [hv]; rfl) (Nat.le_of_ble_eq_true rfl) (Nat.le_of_ble_eq_true rfl) hc hs ?_
  exact T_icmp_eq (tgt := 1241) dL_law_253 rfl (fun _ => k1 σ2 nc ns l5 l6 h3 (by omega) (by omega)) (fun z => absurd rfl z)
theorem lw_2 (hN : gN G < 2 ^ 31) (hi : i + 5 < gN G) (h : Rel σ) (hc : nc ≤ 601024) (hs : ns ≤ 7293034) (k1 : ∀ σ2 nc2 ns2 l5 l6, Rel σ2 → nc2 ≤ nc + 1 → ns2 ≤ ns + 6 → mE G 1241 (lwL i l5 l6) [] σ2 nc2 ns2 Q) : mE G 258 (lwL i l5 l6) [] σ nc ns Q := by
  obtain ⟨r, σ1, σ2, h1, h2, h3⟩ := op_tell (G := G) words_ok h 
  refine T_aload_n dL_law_258 rfl ?_
  refine L_call (as := []) h1 dL_law_259 rfl (by decide) rfl rfl rfl rfl ⟨(Nat.le_of_ble_eq_true rfl), (Nat.le_of_ble_eq_true rfl)⟩ (by intro v hv; cases hv) (Nat.le_of_ble_eq_true rfl) (Nat.le_of_ble_eq_true rfl) hc hs ?_
  refine T_aload_n dL_law_262 rfl ?_
  refine L_call (as := []) h2 dL_law_263 rfl (by decide) rfl rfl rfl rfl ⟨(Nat.le_of_ble_eq_true rfl), (Nat.le_of_ble_eq_true rfl)⟩ (by intro v hv; cases hv) (Nat.le_of_ble_eq_true rfl) (Nat.le_of_ble_eq_true rfl) hc hs ?_
  exact T_icmp_eq (tgt := 1241) dL_law_266 rfl (fun _ => k1 σ2 nc ns l5 l6 h3 (by omega) (by omega)) (fun z => absurd rfl z)
theorem lw_3 (hN : gN G < 2 ^ 31) (hi : i + 5 < gN G) (h : Rel σ) (hc : nc ≤ 601024) (hs : ns ≤ 7293034) (k1 : ∀ σ2 nc2 ns2 l5 l6, Rel σ2 → nc2 ≤ nc + 1 → ns2 ≤ ns + 6 → mE G 1241 (lwL i l5 l6) [] σ2 nc2 ns2 Q) : mE G 271 (lwL i l5 l6) [] σ nc ns Q := by
  obtain ⟨r, σ1, σ2, h1, h2, h3⟩ := op_fault (G := G) h 
  refine T_aload_n dL_law_271 rfl ?_
  refine L_call (as := []) h1 dL_law_272 rfl (by decide) rfl rfl rfl rfl ⟨(Nat.le_of_ble_eq_true rfl), (Nat.le_of_ble_eq_true rfl)⟩ (by intro v hv; cases hv) (Nat.le_of_ble_eq_true rfl) (Nat.le_of_ble_eq_true rfl) hc hs ?_
  refine T_aload_n dL_law_275 rfl ?_
  refine L_call (as := []) h2 dL_law_276 rfl (by decide) rfl rfl rfl rfl ⟨(Nat.le_of_ble_eq_true rfl), (Nat.le_of_ble_eq_true rfl)⟩ (by intro v hv; cases hv) (Nat.le_of_ble_eq_true rfl) (Nat.le_of_ble_eq_true rfl) hc hs ?_
  exact T_icmp_eq (tgt := 1241) dL_law_279 rfl (fun _ => k1 σ2 nc ns l5 l6 h3 (by omega) (by omega)) (fun z => absurd rfl z)
theorem lw_4 (hN : gN G < 2 ^ 31) (hi : i + 5 < gN G) (h : Rel σ) (hc : nc ≤ 601024) (hs : ns ≤ 7293034) (k1 : ∀ σ2 nc2 ns2 l5 l6, Rel σ2 → nc2 ≤ nc + 1 → ns2 ≤ ns + 6 → mE G 1241 (lwL i l5 l6) [] σ2 nc2 ns2 Q) : mE G 284 (lwL i l5 l6) [] σ nc ns Q := by
  obtain ⟨r, σ1, σ2, h1, h2, h3⟩ := op_group (G := G) h (gS G (i + 1)) (gS G (i + 2))
  refine T_aload_n dL_law_284 rfl ?_
  refine L_arg (j := 1) hN (by omega) dL_law_285 dL_law_286 dL_law_288 rfl dL_law_289 dL_law_290 ?_
  refine L_arg (j := 2) hN (by omega) dL_law_291 dL_law_292 dL_law_294 rfl dL_law_295 dL_law_296 ?_
  refine L_call (as := [.int (gS G (i + 1)), .int (gS G (i + 2))]) h1 dL_law_297 rfl (by decide) rfl rfl rfl rfl ⟨(Nat.le_of_ble_eq_true rfl), (Nat.le_of_ble_eq_true rfl)⟩ (by intro v hv; simp at hv; rcases hv with rfl | rfl <;> rfl) (Nat.le_of_ble_eq_true rfl) (Nat.le_of_ble_eq_true rfl) hc hs ?_
  refine T_aload_n dL_law_300 rfl ?_
  refine L_arg (j := 1) hN (by omega) dL_law_301 dL_law_302 dL_law_304 rfl dL_law_305 dL_law_306 ?_
  refine L_arg (j := 2) hN (by omega) dL_law_307 dL_law_308 dL_law_310 rfl dL_law_311 dL_law_312 ?_
  refine L_call (as := [.int (gS G (i + 1)), .int (gS G (i + 2))]) h2 dL_law_313 rfl (by decide) rfl rfl rfl rfl ⟨(Nat.le_of_ble_eq_true rfl), (Nat.le_of_ble_eq_true rfl)⟩ (by intro v hv; simp at hv; rcases hv with rfl | rfl <;> rfl) (Nat.le_of_ble_eq_true rfl) (Nat.le_of_ble_eq_true rfl) hc hs ?_
  exact T_icmp_eq (tgt := 1241) dL_law_316 rfl (fun _ => k1 σ2 nc ns l5 l6 h3 (by omega) (by omega)) (fun z => absurd rfl z)
theorem lw_5 (hN : gN G < 2 ^ 31) (hi : i + 5 < gN G) (h : Rel σ) (hc : nc ≤ 601024) (hs : ns ≤ 7293034) (k1 : ∀ σ2 nc2 ns2 l5 l6, Rel σ2 → nc2 ≤ nc + 1 → ns2 ≤ ns + 6 → mE G 1241 (lwL i l5 l6) [] σ2 nc2 ns2 Q) : mE G 321 (lwL i l5 l6) [] σ nc ns Q := by
  obtain ⟨r, σ1, σ2, h1, h2, h3⟩ := op_load (G := G) h (gS G (i + 1)) (gS G (i + 2))
  refine T_aload_n dL_law_321 rfl ?_
  refine L_arg (j := 1) hN (by omega) dL_law_322 dL_law_323 dL_law_325 rfl dL_law_326 dL_law_327 ?_
  refine L_arg (j := 2) hN (by omega) dL_law_328 dL_law_329 dL_law_331 rfl dL_law_332 dL_law_333 ?_
  refine L_call (as := [.int (gS G (i + 1)), .int (gS G (i + 2))]) h1 dL_law_334 rfl (by decide) rfl rfl rfl rfl ⟨(Nat.le_of_ble_eq_true rfl), (Nat.le_of_ble_eq_true rfl)⟩ (by intro v hv; simp at hv; rcases hv with rfl | rfl <;> rfl) (Nat.le_of_ble_eq_true rfl) (Nat.le_of_ble_eq_true rfl) hc hs ?_
  refine T_aload_n dL_law_337 rfl ?_
  refine L_arg (j := 1) hN (by omega) dL_law_338 dL_law_339 dL_law_341 rfl dL_law_342 dL_law_343 ?_
  refine L_arg (j := 2) hN (by omega) dL_law_344 dL_law_345 dL_law_347 rfl dL_law_348 dL_law_349 ?_
  refine L_call (as := [.int (gS G (i + 1)), .int (gS G (i + 2))]) h2 dL_law_350 rfl (by decide) rfl rfl rfl rfl ⟨(Nat.le_of_ble_eq_true rfl), (Nat.le_of_ble_eq_true rfl)⟩ (by intro v hv; simp at hv; rcases hv with rfl | rfl <;> rfl) (Nat.le_of_ble_eq_true rfl) (Nat.le_of_ble_eq_true rfl) hc hs ?_
  exact T_icmp_eq (tgt := 1241) dL_law_353 rfl (fun _ => k1 σ2 nc ns l5 l6 h3 (by omega) (by omega)) (fun z => absurd rfl z)
theorem lw_6 (hN : gN G < 2 ^ 31) (hi : i + 5 < gN G) (h : Rel σ) (hc : nc ≤ 601024) (hs : ns ≤ 7293034) (k1 : ∀ σ2 nc2 ns2 l5 l6, Rel σ2 → nc2 ≤ nc + 1 → ns2 ≤ ns + 6 → mE G 1241 (lwL i l5 l6) [] σ2 nc2 ns2 Q) : mE G 358 (lwL i l5 l6) [] σ nc ns Q := by
  obtain ⟨r, σ1, σ2, h1, h2, h3⟩ := op_set (G := G) h (gS G (i + 1)) (gS G (i + 2))
  refine T_aload_n dL_law_358 rfl ?_
  refine L_arg (j := 1) hN (by omega) dL_law_359 dL_law_360 dL_law_362 rfl dL_law_363 dL_law_364 ?_
  refine L_arg (j := 2) hN (by omega) dL_law_365 dL_law_366 dL_law_368 rfl dL_law_369 dL_law_370 ?_
  refine L_call (as := [.int (gS G (i + 1)), .int (gS G (i + 2))]) h1 dL_law_371 rfl (by decide) rfl rfl rfl rfl ⟨(Nat.le_of_ble_eq_true rfl), (Nat.le_of_ble_eq_true rfl)⟩ (by intro v hv; simp at hv; rcases hv with rfl | rfl <;> rfl) (Nat.le_of_ble_eq_true rfl) (Nat.le_of_ble_eq_true rfl) hc hs ?_
  refine T_aload_n dL_law_374 rfl ?_
  refine L_arg (j := 1) hN (by omega) dL_law_375 dL_law_376 dL_law_378 rfl dL_law_379 dL_law_380 ?_
  refine L_arg (j := 2) hN (by omega) dL_law_381 dL_law_382 dL_law_384 rfl dL_law_385 dL_law_386 ?_
  refine L_call (as := [.int (gS G (i + 1)), .int (gS G (i + 2))]) h2 dL_law_387 rfl (by decide) rfl rfl rfl rfl ⟨(Nat.le_of_ble_eq_true rfl), (Nat.le_of_ble_eq_true rfl)⟩ (by intro v hv; simp at hv; rcases hv with rfl | rfl <;> rfl) (Nat.le_of_ble_eq_true rfl) (Nat.le_of_ble_eq_true rfl) hc hs ?_
  exact T_icmp_eq (tgt := 1241) dL_law_390 rfl (fun _ => k1 σ2 nc ns l5 l6 h3 (by omega) (by omega)) (fun z => absurd rfl z)
theorem lw_7 (hN : gN G < 2 ^ 31) (hi : i + 5 < gN G) (h : Rel σ) (hc : nc ≤ 601024) (hs : ns ≤ 7293034) (k1 : ∀ σ2 nc2 ns2 l5 l6, Rel σ2 → nc2 ≤ nc + 1 → ns2 ≤ ns + 6 → mE G 1241 (lwL i l5 l6) [] σ2 nc2 ns2 Q) : mE G 395 (lwL i l5 l6) [] σ nc ns Q := by
  obtain ⟨r, σ1, σ2, h1, h2, h3⟩ := op_camp (G := G) h (gS G (i + 1)) (gS G (i + 2))
  refine T_aload_n dL_law_395 rfl ?_
  refine L_arg (j := 1) hN (by omega) dL_law_396 dL_law_397 dL_law_399 rfl dL_law_400 dL_law_401 ?_
  refine L_arg (j := 2) hN (by omega) dL_law_402 dL_law_403 dL_law_405 rfl dL_law_406 dL_law_407 ?_
  refine L_call (as := [.int (gS G (i + 1)), .int (gS G (i + 2))]) h1 dL_law_408 rfl (by decide) rfl rfl rfl rfl ⟨(Nat.le_of_ble_eq_true rfl), (Nat.le_of_ble_eq_true rfl)⟩ (by intro v hv; simp at hv; rcases hv with rfl | rfl <;> rfl) (Nat.le_of_ble_eq_true rfl) (Nat.le_of_ble_eq_true rfl) hc hs ?_
  refine T_aload_n dL_law_411 rfl ?_
  refine L_arg (j := 1) hN (by omega) dL_law_412 dL_law_413 dL_law_415 rfl dL_law_416 dL_law_417 ?_
  refine L_arg (j := 2) hN (by omega) dL_law_418 dL_law_419 dL_law_421 rfl dL_law_422 dL_law_423 ?_
  refine L_call (as := [.int (gS G (i + 1)), .int (gS G (i + 2))]) h2 dL_law_424 rfl (by decide) rfl rfl rfl rfl ⟨(Nat.le_of_ble_eq_true rfl), (Nat.le_of_ble_eq_true rfl)⟩ (by intro v hv; simp at hv; rcases hv with rfl | rfl <;> rfl) (Nat.le_of_ble_eq_true rfl) (Nat.le_of_ble_eq_true rfl) hc hs ?_
  exact T_icmp_eq (tgt := 1241) dL_law_427 rfl (fun _ => k1 σ2 nc ns l5 l6 h3 (by omega) (by omega)) (fun z => absurd rfl z)
theorem lw_8 (hN : gN G < 2 ^ 31) (hi : i + 5 < gN G) (h : Rel σ) (hc : nc ≤ 601024) (hs : ns ≤ 7293034) (k1 : ∀ σ2 nc2 ns2 l5 l6, Rel σ2 → nc2 ≤ nc + 1 → ns2 ≤ ns + 6 → mE G 1241 (lwL i l5 l6) [] σ2 nc2 ns2 Q) : mE G 432 (lwL i l5 l6) [] σ nc ns Q := by
  obtain ⟨r, σ1, σ2, h1, h2, h3⟩ := op_strike (G := G) h (gS G (i + 1))
  refine T_aload_n dL_law_432 rfl ?_
  refine L_arg (j := 1) hN (by omega) dL_law_433 dL_law_434 dL_law_436 rfl dL_law_437 dL_law_438 ?_
  refine L_call (as := [.int (gS G (i + 1))]) h1 dL_law_439 rfl (by decide) rfl rfl rfl rfl ⟨(Nat.le_of_ble_eq_true rfl), (Nat.le_of_ble_eq_true rfl)⟩ (by intro v hv; simp at hv; rw [hv]; rfl) (Nat.le_of_ble_eq_true rfl) (Nat.le_of_ble_eq_true rfl) hc hs ?_
  refine T_aload_n dL_law_442 rfl ?_
  refine L_arg (j := 1) hN (by omega) dL_law_443 dL_law_444 dL_law_446 rfl dL_law_447 dL_law_448 ?_
  refine L_call (as := [.int (gS G (i + 1))]) h2 dL_law_449 rfl (by decide) rfl rfl rfl rfl ⟨(Nat.le_of_ble_eq_true rfl), (Nat.le_of_ble_eq_true rfl)⟩ (by intro v hv; simp at hv; rw [hv]; rfl) (Nat.le_of_ble_eq_true rfl) (Nat.le_of_ble_eq_true rfl) hc hs ?_
  exact T_icmp_eq (tgt := 1241) dL_law_452 rfl (fun _ => k1 σ2 nc ns l5 l6 h3 (by omega) (by omega)) (fun z => absurd rfl z)
theorem lw_9 (hN : gN G < 2 ^ 31) (hi : i + 5 < gN G) (h : Rel σ) (hc : nc ≤ 601024) (hs : ns ≤ 7293034) (k1 : ∀ σ2 nc2 ns2 l5 l6, Rel σ2 → nc2 ≤ nc + 1 → ns2 ≤ ns + 6 → mE G 1241 (lwL i l5 l6) [] σ2 nc2 ns2 Q) : mE G 457 (lwL i l5 l6) [] σ nc ns Q := by
  obtain ⟨r, σ1, σ2, h1, h2, h3⟩ := op_plan (G := G) h (gS G (i + 1)) (gS G (i + 2)) (gS G (i + 3)) (gS G (i + 4))
  refine T_aload_n dL_law_457 rfl ?_
  refine L_arg (j := 1) hN (by omega) dL_law_458 dL_law_459 dL_law_461 rfl dL_law_462 dL_law_463 ?_
  refine L_arg (j := 2) hN (by omega) dL_law_464 dL_law_465 dL_law_467 rfl dL_law_468 dL_law_469 ?_
  refine L_arg (j := 3) hN (by omega) dL_law_470 dL_law_471 dL_law_473 rfl dL_law_474 dL_law_475 ?_
  refine L_arg (j := 4) hN (by omega) dL_law_476 dL_law_477 dL_law_479 rfl dL_law_480 dL_law_481 ?_
  refine L_call (as := [.int (gS G (i + 1)), .int (gS G (i + 2)), .int (gS G (i + 3)), .int (gS G (i + 4))]) h1 dL_law_482 rfl (by decide) rfl rfl rfl rfl ⟨(Nat.le_of_ble_eq_true rfl), (Nat.le_of_ble_eq_true rfl)⟩ (by intro v hv; simp at hv; rcases hv with rfl | rfl | rfl | rfl <;> rfl) (Nat.le_of_ble_eq_true rfl) (Nat.le_of_ble_eq_true rfl) hc hs ?_
  refine T_aload_n dL_law_485 rfl ?_
  refine L_arg (j := 1) hN (by omega) dL_law_486 dL_law_487 dL_law_489 rfl dL_law_490 dL_law_491 ?_
  refine L_arg (j := 2) hN (by omega) dL_law_492 dL_law_493 dL_law_495 rfl dL_law_496 dL_law_497 ?_
  refine L_arg (j := 3) hN (by omega) dL_law_498 dL_law_499 dL_law_501 rfl dL_law_502 dL_law_503 ?_
  refine L_arg (j := 4) hN (by omega) dL_law_504 dL_law_505 dL_law_507 rfl dL_law_508 dL_law_509 ?_
  refine L_call (as := [.int (gS G (i + 1)), .int (gS G (i + 2)), .int (gS G (i + 3)), .int (gS G (i + 4))]) h2 dL_law_510 rfl (by decide) rfl rfl rfl rfl ⟨(Nat.le_of_ble_eq_true rfl), (Nat.le_of_ble_eq_true rfl)⟩ (by intro v hv; simp at hv; rcases hv with rfl | rfl | rfl | rfl <;> rfl) (Nat.le_of_ble_eq_true rfl) (Nat.le_of_ble_eq_true rfl) hc hs ?_
  exact T_icmp_eq (tgt := 1241) dL_law_513 rfl (fun _ => k1 σ2 nc ns l5 l6 h3 (by omega) (by omega)) (fun z => absurd rfl z)
theorem lw_10 (hN : gN G < 2 ^ 31) (hi : i + 5 < gN G) (h : Rel σ) (hc : nc ≤ 601024) (hs : ns ≤ 7293034) (k1 : ∀ σ2 nc2 ns2 l5 l6, Rel σ2 → nc2 ≤ nc + 1 → ns2 ≤ ns + 6 → mE G 1241 (lwL i l5 l6) [] σ2 nc2 ns2 Q) : mE G 518 (lwL i l5 l6) [] σ nc ns Q := by
  obtain ⟨r, σ1, σ2, h1, h2, h3⟩ := op_undo (G := G) h 
  refine T_aload_n dL_law_518 rfl ?_
  refine L_call (as := []) h1 dL_law_519 rfl (by decide) rfl rfl rfl rfl ⟨(Nat.le_of_ble_eq_true rfl), (Nat.le_of_ble_eq_true rfl)⟩ (by intro v hv; cases hv) (Nat.le_of_ble_eq_true rfl) (Nat.le_of_ble_eq_true rfl) hc hs ?_
  refine T_aload_n dL_law_522 rfl ?_
  refine L_call (as := []) h2 dL_law_523 rfl (by decide) rfl rfl rfl rfl ⟨(Nat.le_of_ble_eq_true rfl), (Nat.le_of_ble_eq_true rfl)⟩ (by intro v hv; cases hv) (Nat.le_of_ble_eq_true rfl) (Nat.le_of_ble_eq_true rfl) hc hs ?_
  exact T_icmp_eq (tgt := 1241) dL_law_526 rfl (fun _ => k1 σ2 nc ns l5 l6 h3 (by omega) (by omega)) (fun z => absurd rfl z)
theorem lw_11 (hN : gN G < 2 ^ 31) (hi : i + 5 < gN G) (h : Rel σ) (hc : nc ≤ 601024) (hs : ns ≤ 7293034) (k1 : ∀ σ2 nc2 ns2 l5 l6, Rel σ2 → nc2 ≤ nc + 1 → ns2 ≤ ns + 6 → mE G 1241 (lwL i l5 l6) [] σ2 nc2 ns2 Q) : mE G 531 (lwL i l5 l6) [] σ nc ns Q := by
  obtain ⟨r, σ1, σ2, h1, h2, h3⟩ := op_count (G := G) h (gS G (i + 1))
  refine T_aload_n dL_law_531 rfl ?_
  refine L_arg (j := 1) hN (by omega) dL_law_532 dL_law_533 dL_law_535 rfl dL_law_536 dL_law_537 ?_
  refine L_call (as := [.int (gS G (i + 1))]) h1 dL_law_538 rfl (by decide) rfl rfl rfl rfl ⟨(Nat.le_of_ble_eq_true rfl), (Nat.le_of_ble_eq_true rfl)⟩ (by intro v hv; simp at hv; rw [hv]; rfl) (Nat.le_of_ble_eq_true rfl) (Nat.le_of_ble_eq_true rfl) hc hs ?_
  refine T_aload_n dL_law_541 rfl ?_
  refine L_arg (j := 1) hN (by omega) dL_law_542 dL_law_543 dL_law_545 rfl dL_law_546 dL_law_547 ?_
  refine L_call (as := [.int (gS G (i + 1))]) h2 dL_law_548 rfl (by decide) rfl rfl rfl rfl ⟨(Nat.le_of_ble_eq_true rfl), (Nat.le_of_ble_eq_true rfl)⟩ (by intro v hv; simp at hv; rw [hv]; rfl) (Nat.le_of_ble_eq_true rfl) (Nat.le_of_ble_eq_true rfl) hc hs ?_
  exact T_icmp_eq (tgt := 1241) dL_law_551 rfl (fun _ => k1 σ2 nc ns l5 l6 h3 (by omega) (by omega)) (fun z => absurd rfl z)
theorem lw_13 (hN : gN G < 2 ^ 31) (hi : i + 5 < gN G) (h : Rel σ) (hc : nc ≤ 601024) (hs : ns ≤ 7293034) (k1 : ∀ σ2 nc2 ns2 l5 l6, Rel σ2 → nc2 ≤ nc + 1 → ns2 ≤ ns + 6 → mE G 1241 (lwL i l5 l6) [] σ2 nc2 ns2 Q) : mE G 640 (lwL i l5 l6) [] σ nc ns Q := by
  obtain ⟨r, σ1, σ2, h1, h2, h3⟩ := op_day (G := G) h (gS G (i + 1)) (gS G (i + 2)) (gS G (i + 3))
  refine T_aload_n dL_law_640 rfl ?_
  refine L_arg (j := 1) hN (by omega) dL_law_641 dL_law_642 dL_law_644 rfl dL_law_645 dL_law_646 ?_
  refine L_arg (j := 2) hN (by omega) dL_law_647 dL_law_648 dL_law_650 rfl dL_law_651 dL_law_652 ?_
  refine L_arg (j := 3) hN (by omega) dL_law_653 dL_law_654 dL_law_656 rfl dL_law_657 dL_law_658 ?_
  refine L_call (as := [.int (gS G (i + 1)), .int (gS G (i + 2)), .int (gS G (i + 3))]) h1 dL_law_659 rfl (by decide) rfl rfl rfl rfl ⟨(Nat.le_of_ble_eq_true rfl), (Nat.le_of_ble_eq_true rfl)⟩ (by intro v hv; simp at hv; rcases hv with rfl | rfl | rfl <;> rfl) (Nat.le_of_ble_eq_true rfl) (Nat.le_of_ble_eq_true rfl) hc hs ?_
  refine T_aload_n dL_law_662 rfl ?_
  refine L_arg (j := 1) hN (by omega) dL_law_663 dL_law_664 dL_law_666 rfl dL_law_667 dL_law_668 ?_
  refine L_arg (j := 2) hN (by omega) dL_law_669 dL_law_670 dL_law_672 rfl dL_law_673 dL_law_674 ?_
  refine L_arg (j := 3) hN (by omega) dL_law_675 dL_law_676 dL_law_678 rfl dL_law_679 dL_law_680 ?_
  refine L_call (as := [.int (gS G (i + 1)), .int (gS G (i + 2)), .int (gS G (i + 3))]) h2 dL_law_681 rfl (by decide) rfl rfl rfl rfl ⟨(Nat.le_of_ble_eq_true rfl), (Nat.le_of_ble_eq_true rfl)⟩ (by intro v hv; simp at hv; rcases hv with rfl | rfl | rfl <;> rfl) (Nat.le_of_ble_eq_true rfl) (Nat.le_of_ble_eq_true rfl) hc hs ?_
  exact T_icmp_eq (tgt := 1241) dL_law_684 rfl (fun _ => k1 σ2 nc ns l5 l6 h3 (by omega) (by omega)) (fun z => absurd rfl z)
theorem lw_14 (hN : gN G < 2 ^ 31) (hi : i + 5 < gN G) (h : Rel σ) (hc : nc ≤ 601024) (hs : ns ≤ 7293034) (k1 : ∀ σ2 nc2 ns2 l5 l6, Rel σ2 → nc2 ≤ nc + 1 → ns2 ≤ ns + 6 → mE G 1241 (lwL i l5 l6) [] σ2 nc2 ns2 Q) : mE G 689 (lwL i l5 l6) [] σ nc ns Q := by
  obtain ⟨r, σ1, σ2, h1, h2, h3⟩ := op_form (G := G) h (gS G (i + 1)) (gS G (i + 2))
  refine T_aload_n dL_law_689 rfl ?_
  refine L_arg (j := 1) hN (by omega) dL_law_690 dL_law_691 dL_law_693 rfl dL_law_694 dL_law_695 ?_
  refine L_arg (j := 2) hN (by omega) dL_law_696 dL_law_697 dL_law_699 rfl dL_law_700 dL_law_701 ?_
  refine L_call (as := [.int (gS G (i + 1)), .int (gS G (i + 2))]) h1 dL_law_702 rfl (by decide) rfl rfl rfl rfl ⟨(Nat.le_of_ble_eq_true rfl), (Nat.le_of_ble_eq_true rfl)⟩ (by intro v hv; simp at hv; rcases hv with rfl | rfl <;> rfl) (Nat.le_of_ble_eq_true rfl) (Nat.le_of_ble_eq_true rfl) hc hs ?_
  refine T_aload_n dL_law_705 rfl ?_
  refine L_arg (j := 1) hN (by omega) dL_law_706 dL_law_707 dL_law_709 rfl dL_law_710 dL_law_711 ?_
  refine L_arg (j := 2) hN (by omega) dL_law_712 dL_law_713 dL_law_715 rfl dL_law_716 dL_law_717 ?_
  refine L_call (as := [.int (gS G (i + 1)), .int (gS G (i + 2))]) h2 dL_law_718 rfl (by decide) rfl rfl rfl rfl ⟨(Nat.le_of_ble_eq_true rfl), (Nat.le_of_ble_eq_true rfl)⟩ (by intro v hv; simp at hv; rcases hv with rfl | rfl <;> rfl) (Nat.le_of_ble_eq_true rfl) (Nat.le_of_ble_eq_true rfl) hc hs ?_
  exact T_icmp_eq (tgt := 1241) dL_law_721 rfl (fun _ => k1 σ2 nc ns l5 l6 h3 (by omega) (by omega)) (fun z => absurd rfl z)
theorem lw_15 (hN : gN G < 2 ^ 31) (hi : i + 5 < gN G) (h : Rel σ) (hc : nc ≤ 601024) (hs : ns ≤ 7293034) (k1 : ∀ σ2 nc2 ns2 l5 l6, Rel σ2 → nc2 ≤ nc + 1 → ns2 ≤ ns + 6 → mE G 1241 (lwL i l5 l6) [] σ2 nc2 ns2 Q) : mE G 726 (lwL i l5 l6) [] σ nc ns Q := by
  obtain ⟨r, σ1, σ2, h1, h2, h3⟩ := op_week (G := G) h (gS G (i + 1)) (gS G (i + 2))
  refine T_aload_n dL_law_726 rfl ?_
  refine L_arg (j := 1) hN (by omega) dL_law_727 dL_law_728 dL_law_730 rfl dL_law_731 dL_law_732 ?_
  refine L_arg (j := 2) hN (by omega) dL_law_733 dL_law_734 dL_law_736 rfl dL_law_737 dL_law_738 ?_
  refine L_call (as := [.int (gS G (i + 1)), .int (gS G (i + 2))]) h1 dL_law_739 rfl (by decide) rfl rfl rfl rfl ⟨(Nat.le_of_ble_eq_true rfl), (Nat.le_of_ble_eq_true rfl)⟩ (by intro v hv; simp at hv; rcases hv with rfl | rfl <;> rfl) (Nat.le_of_ble_eq_true rfl) (Nat.le_of_ble_eq_true rfl) hc hs ?_
  refine T_aload_n dL_law_742 rfl ?_
  refine L_arg (j := 1) hN (by omega) dL_law_743 dL_law_744 dL_law_746 rfl dL_law_747 dL_law_748 ?_
  refine L_arg (j := 2) hN (by omega) dL_law_749 dL_law_750 dL_law_752 rfl dL_law_753 dL_law_754 ?_
  refine L_call (as := [.int (gS G (i + 1)), .int (gS G (i + 2))]) h2 dL_law_755 rfl (by decide) rfl rfl rfl rfl ⟨(Nat.le_of_ble_eq_true rfl), (Nat.le_of_ble_eq_true rfl)⟩ (by intro v hv; simp at hv; rcases hv with rfl | rfl <;> rfl) (Nat.le_of_ble_eq_true rfl) (Nat.le_of_ble_eq_true rfl) hc hs ?_
  exact T_icmp_eq (tgt := 1241) dL_law_758 rfl (fun _ => k1 σ2 nc ns l5 l6 h3 (by omega) (by omega)) (fun z => absurd rfl z)
theorem lw_16 (hN : gN G < 2 ^ 31) (hi : i + 5 < gN G) (h : Rel σ) (hc : nc ≤ 601024) (hs : ns ≤ 7293034) (k1 : ∀ σ2 nc2 ns2 l5 l6, Rel σ2 → nc2 ≤ nc + 1 → ns2 ≤ ns + 6 → mE G 1241 (lwL i l5 l6) [] σ2 nc2 ns2 Q) : mE G 763 (lwL i l5 l6) [] σ nc ns Q := by
  obtain ⟨r, σ1, σ2, h1, h2, h3⟩ := op_injured (G := G) h (gS G (i + 1)) (gS G (i + 2)) (gS G (i + 3))
  refine T_aload_n dL_law_763 rfl ?_
  refine L_arg (j := 1) hN (by omega) dL_law_764 dL_law_765 dL_law_767 rfl dL_law_768 dL_law_769 ?_
  refine L_arg (j := 2) hN (by omega) dL_law_770 dL_law_771 dL_law_773 rfl dL_law_774 dL_law_775 ?_
  refine L_arg (j := 3) hN (by omega) dL_law_776 dL_law_777 dL_law_779 rfl dL_law_780 dL_law_781 ?_
  refine L_call (as := [.int (gS G (i + 1)), .int (gS G (i + 2)), .int (gS G (i + 3))]) h1 dL_law_782 rfl (by decide) rfl rfl rfl rfl ⟨(Nat.le_of_ble_eq_true rfl), (Nat.le_of_ble_eq_true rfl)⟩ (by intro v hv; simp at hv; rcases hv with rfl | rfl | rfl <;> rfl) (Nat.le_of_ble_eq_true rfl) (Nat.le_of_ble_eq_true rfl) hc hs ?_
  refine T_aload_n dL_law_785 rfl ?_
  refine L_arg (j := 1) hN (by omega) dL_law_786 dL_law_787 dL_law_789 rfl dL_law_790 dL_law_791 ?_
  refine L_arg (j := 2) hN (by omega) dL_law_792 dL_law_793 dL_law_795 rfl dL_law_796 dL_law_797 ?_
  refine L_arg (j := 3) hN (by omega) dL_law_798 dL_law_799 dL_law_801 rfl dL_law_802 dL_law_803 ?_
  refine L_call (as := [.int (gS G (i + 1)), .int (gS G (i + 2)), .int (gS G (i + 3))]) h2 dL_law_804 rfl (by decide) rfl rfl rfl rfl ⟨(Nat.le_of_ble_eq_true rfl), (Nat.le_of_ble_eq_true rfl)⟩ (by intro v hv; simp at hv; rcases hv with rfl | rfl | rfl <;> rfl) (Nat.le_of_ble_eq_true rfl) (Nat.le_of_ble_eq_true rfl) hc hs ?_
  exact T_icmp_eq (tgt := 1241) dL_law_807 rfl (fun _ => k1 σ2 nc ns l5 l6 h3 (by omega) (by omega)) (fun z => absurd rfl z)
theorem lw_17 (hN : gN G < 2 ^ 31) (hi : i + 5 < gN G) (h : Rel σ) (hc : nc ≤ 601024) (hs : ns ≤ 7293034) (k1 : ∀ σ2 nc2 ns2 l5 l6, Rel σ2 → nc2 ≤ nc + 1 → ns2 ≤ ns + 6 → mE G 1241 (lwL i l5 l6) [] σ2 nc2 ns2 Q) : mE G 812 (lwL i l5 l6) [] σ nc ns Q := by
  obtain ⟨r, σ1, σ2, h1, h2, h3⟩ := op_peak (G := G) h (gS G (i + 1)) (gS G (i + 2)) (gS G (i + 3))
  refine T_aload_n dL_law_812 rfl ?_
  refine L_arg (j := 1) hN (by omega) dL_law_813 dL_law_814 dL_law_816 rfl dL_law_817 dL_law_818 ?_
  refine L_arg (j := 2) hN (by omega) dL_law_819 dL_law_820 dL_law_822 rfl dL_law_823 dL_law_824 ?_
  refine L_arg (j := 3) hN (by omega) dL_law_825 dL_law_826 dL_law_828 rfl dL_law_829 dL_law_830 ?_
  refine L_call (as := [.int (gS G (i + 1)), .int (gS G (i + 2)), .int (gS G (i + 3))]) h1 dL_law_831 rfl (by decide) rfl rfl rfl rfl ⟨(Nat.le_of_ble_eq_true rfl), (Nat.le_of_ble_eq_true rfl)⟩ (by intro v hv; simp at hv; rcases hv with rfl | rfl | rfl <;> rfl) (Nat.le_of_ble_eq_true rfl) (Nat.le_of_ble_eq_true rfl) hc hs ?_
  refine T_aload_n dL_law_834 rfl ?_
  refine L_arg (j := 1) hN (by omega) dL_law_835 dL_law_836 dL_law_838 rfl dL_law_839 dL_law_840 ?_
  refine L_arg (j := 2) hN (by omega) dL_law_841 dL_law_842 dL_law_844 rfl dL_law_845 dL_law_846 ?_
  refine L_arg (j := 3) hN (by omega) dL_law_847 dL_law_848 dL_law_850 rfl dL_law_851 dL_law_852 ?_
  refine L_call (as := [.int (gS G (i + 1)), .int (gS G (i + 2)), .int (gS G (i + 3))]) h2 dL_law_853 rfl (by decide) rfl rfl rfl rfl ⟨(Nat.le_of_ble_eq_true rfl), (Nat.le_of_ble_eq_true rfl)⟩ (by intro v hv; simp at hv; rcases hv with rfl | rfl | rfl <;> rfl) (Nat.le_of_ble_eq_true rfl) (Nat.le_of_ble_eq_true rfl) hc hs ?_
  exact T_icmp_eq (tgt := 1241) dL_law_856 rfl (fun _ => k1 σ2 nc ns l5 l6 h3 (by omega) (by omega)) (fun z => absurd rfl z)
theorem lw_18 (hN : gN G < 2 ^ 31) (hi : i + 5 < gN G) (h : Rel σ) (hc : nc ≤ 601024) (hs : ns ≤ 7293034) (k1 : ∀ σ2 nc2 ns2 l5 l6, Rel σ2 → nc2 ≤ nc + 1 → ns2 ≤ ns + 6 → mE G 1241 (lwL i l5 l6) [] σ2 nc2 ns2 Q) : mE G 861 (lwL i l5 l6) [] σ nc ns Q := by
  obtain ⟨r, σ1, σ2, h1, h2, h3⟩ := op_taper (G := G) h (gS G (i + 1)) (gS G (i + 2))
  refine T_aload_n dL_law_861 rfl ?_
  refine L_arg (j := 1) hN (by omega) dL_law_862 dL_law_863 dL_law_865 rfl dL_law_866 dL_law_867 ?_
  refine L_arg (j := 2) hN (by omega) dL_law_868 dL_law_869 dL_law_871 rfl dL_law_872 dL_law_873 ?_
  refine L_call (as := [.int (gS G (i + 1)), .int (gS G (i + 2))]) h1 dL_law_874 rfl (by decide) rfl rfl rfl rfl ⟨(Nat.le_of_ble_eq_true rfl), (Nat.le_of_ble_eq_true rfl)⟩ (by intro v hv; simp at hv; rcases hv with rfl | rfl <;> rfl) (Nat.le_of_ble_eq_true rfl) (Nat.le_of_ble_eq_true rfl) hc hs ?_
  refine T_aload_n dL_law_877 rfl ?_
  refine L_arg (j := 1) hN (by omega) dL_law_878 dL_law_879 dL_law_881 rfl dL_law_882 dL_law_883 ?_
  refine L_arg (j := 2) hN (by omega) dL_law_884 dL_law_885 dL_law_887 rfl dL_law_888 dL_law_889 ?_
  refine L_call (as := [.int (gS G (i + 1)), .int (gS G (i + 2))]) h2 dL_law_890 rfl (by decide) rfl rfl rfl rfl ⟨(Nat.le_of_ble_eq_true rfl), (Nat.le_of_ble_eq_true rfl)⟩ (by intro v hv; simp at hv; rcases hv with rfl | rfl <;> rfl) (Nat.le_of_ble_eq_true rfl) (Nat.le_of_ble_eq_true rfl) hc hs ?_
  exact T_icmp_eq (tgt := 1241) dL_law_893 rfl (fun _ => k1 σ2 nc ns l5 l6 h3 (by omega) (by omega)) (fun z => absurd rfl z)
theorem lw_19 (hN : gN G < 2 ^ 31) (hi : i + 5 < gN G) (h : Rel σ) (hc : nc ≤ 601024) (hs : ns ≤ 7293034) (k1 : ∀ σ2 nc2 ns2 l5 l6, Rel σ2 → nc2 ≤ nc + 1 → ns2 ≤ ns + 6 → mE G 1241 (lwL i l5 l6) [] σ2 nc2 ns2 Q) : mE G 898 (lwL i l5 l6) [] σ nc ns Q := by
  obtain ⟨r, σ1, σ2, h1, h2, h3⟩ := op_best (G := G) h (gS G (i + 1)) (gS G (i + 2)) (gS G (i + 3)) (gS G (i + 4))
  refine T_aload_n dL_law_898 rfl ?_
  refine L_arg (j := 1) hN (by omega) dL_law_899 dL_law_900 dL_law_902 rfl dL_law_903 dL_law_904 ?_
  refine L_arg (j := 2) hN (by omega) dL_law_905 dL_law_906 dL_law_908 rfl dL_law_909 dL_law_910 ?_
  refine L_arg (j := 3) hN (by omega) dL_law_911 dL_law_912 dL_law_914 rfl dL_law_915 dL_law_916 ?_
  refine L_arg (j := 4) hN (by omega) dL_law_917 dL_law_918 dL_law_920 rfl dL_law_921 dL_law_922 ?_
  refine L_call (as := [.int (gS G (i + 1)), .int (gS G (i + 2)), .int (gS G (i + 3)), .int (gS G (i + 4))]) h1 dL_law_923 rfl (by decide) rfl rfl rfl rfl ⟨(Nat.le_of_ble_eq_true rfl), (Nat.le_of_ble_eq_true rfl)⟩ (by intro v hv; simp at hv; rcases hv with rfl | rfl | rfl | rfl <;> rfl) (Nat.le_of_ble_eq_true rfl) (Nat.le_of_ble_eq_true rfl) hc hs ?_
  refine T_aload_n dL_law_926 rfl ?_
  refine L_arg (j := 1) hN (by omega) dL_law_927 dL_law_928 dL_law_930 rfl dL_law_931 dL_law_932 ?_
  refine L_arg (j := 2) hN (by omega) dL_law_933 dL_law_934 dL_law_936 rfl dL_law_937 dL_law_938 ?_
  refine L_arg (j := 3) hN (by omega) dL_law_939 dL_law_940 dL_law_942 rfl dL_law_943 dL_law_944 ?_
  refine L_arg (j := 4) hN (by omega) dL_law_945 dL_law_946 dL_law_948 rfl dL_law_949 dL_law_950 ?_
  refine L_call (as := [.int (gS G (i + 1)), .int (gS G (i + 2)), .int (gS G (i + 3)), .int (gS G (i + 4))]) h2 dL_law_951 rfl (by decide) rfl rfl rfl rfl ⟨(Nat.le_of_ble_eq_true rfl), (Nat.le_of_ble_eq_true rfl)⟩ (by intro v hv; simp at hv; rcases hv with rfl | rfl | rfl | rfl <;> rfl) (Nat.le_of_ble_eq_true rfl) (Nat.le_of_ble_eq_true rfl) hc hs ?_
  exact T_icmp_eq (tgt := 1241) dL_law_954 rfl (fun _ => k1 σ2 nc ns l5 l6 h3 (by omega) (by omega)) (fun z => absurd rfl z)
theorem lw_20 (hN : gN G < 2 ^ 31) (hi : i + 5 < gN G) (h : Rel σ) (hc : nc ≤ 601024) (hs : ns ≤ 7293034) (k1 : ∀ σ2 nc2 ns2 l5 l6, Rel σ2 → nc2 ≤ nc + 1 → ns2 ≤ ns + 6 → mE G 1241 (lwL i l5 l6) [] σ2 nc2 ns2 Q) : mE G 959 (lwL i l5 l6) [] σ nc ns Q := by
  obtain ⟨r, σ1, σ2, h1, h2, h3⟩ := op_team (G := G) h (gS G (i + 1)) (gS G (i + 2))
  refine T_aload_n dL_law_959 rfl ?_
  refine L_arg (j := 1) hN (by omega) dL_law_960 dL_law_961 dL_law_963 rfl dL_law_964 dL_law_965 ?_
  refine L_arg (j := 2) hN (by omega) dL_law_966 dL_law_967 dL_law_969 rfl dL_law_970 dL_law_971 ?_
  refine L_call (as := [.int (gS G (i + 1)), .int (gS G (i + 2))]) h1 dL_law_972 rfl (by decide) rfl rfl rfl rfl ⟨(Nat.le_of_ble_eq_true rfl), (Nat.le_of_ble_eq_true rfl)⟩ (by intro v hv; simp at hv; rcases hv with rfl | rfl <;> rfl) (Nat.le_of_ble_eq_true rfl) (Nat.le_of_ble_eq_true rfl) hc hs ?_
  refine T_aload_n dL_law_975 rfl ?_
  refine L_arg (j := 1) hN (by omega) dL_law_976 dL_law_977 dL_law_979 rfl dL_law_980 dL_law_981 ?_
  refine L_arg (j := 2) hN (by omega) dL_law_982 dL_law_983 dL_law_985 rfl dL_law_986 dL_law_987 ?_
  refine L_call (as := [.int (gS G (i + 1)), .int (gS G (i + 2))]) h2 dL_law_988 rfl (by decide) rfl rfl rfl rfl ⟨(Nat.le_of_ble_eq_true rfl), (Nat.le_of_ble_eq_true rfl)⟩ (by intro v hv; simp at hv; rcases hv with rfl | rfl <;> rfl) (Nat.le_of_ble_eq_true rfl) (Nat.le_of_ble_eq_true rfl) hc hs ?_
  exact T_icmp_eq (tgt := 1241) dL_law_991 rfl (fun _ => k1 σ2 nc ns l5 l6 h3 (by omega) (by omega)) (fun z => absurd rfl z)
theorem lw_21 (hN : gN G < 2 ^ 31) (hi : i + 5 < gN G) (h : Rel σ) (hc : nc ≤ 601024) (hs : ns ≤ 7293034) (k1 : ∀ σ2 nc2 ns2 l5 l6, Rel σ2 → nc2 ≤ nc + 1 → ns2 ≤ ns + 6 → mE G 1241 (lwL i l5 l6) [] σ2 nc2 ns2 Q) : mE G 996 (lwL i l5 l6) [] σ nc ns Q := by
  obtain ⟨r, σ1, σ2, h1, h2, h3⟩ := op_safe (G := G) h (gS G (i + 1)) (gS G (i + 2))
  refine T_aload_n dL_law_996 rfl ?_
  refine L_arg (j := 1) hN (by omega) dL_law_997 dL_law_998 dL_law_1000 rfl dL_law_1001 dL_law_1002 ?_
  refine L_arg (j := 2) hN (by omega) dL_law_1003 dL_law_1004 dL_law_1006 rfl dL_law_1007 dL_law_1008 ?_
  refine L_call (as := [.int (gS G (i + 1)), .int (gS G (i + 2))]) h1 dL_law_1009 rfl (by decide) rfl rfl rfl rfl ⟨(Nat.le_of_ble_eq_true rfl), (Nat.le_of_ble_eq_true rfl)⟩ (by intro v hv; simp at hv; rcases hv with rfl | rfl <;> rfl) (Nat.le_of_ble_eq_true rfl) (Nat.le_of_ble_eq_true rfl) hc hs ?_
  refine T_aload_n dL_law_1012 rfl ?_
  refine L_arg (j := 1) hN (by omega) dL_law_1013 dL_law_1014 dL_law_1016 rfl dL_law_1017 dL_law_1018 ?_
  refine L_arg (j := 2) hN (by omega) dL_law_1019 dL_law_1020 dL_law_1022 rfl dL_law_1023 dL_law_1024 ?_
  refine L_call (as := [.int (gS G (i + 1)), .int (gS G (i + 2))]) h2 dL_law_1025 rfl (by decide) rfl rfl rfl rfl ⟨(Nat.le_of_ble_eq_true rfl), (Nat.le_of_ble_eq_true rfl)⟩ (by intro v hv; simp at hv; rcases hv with rfl | rfl <;> rfl) (Nat.le_of_ble_eq_true rfl) (Nat.le_of_ble_eq_true rfl) hc hs ?_
  exact T_icmp_eq (tgt := 1241) dL_law_1028 rfl (fun _ => k1 σ2 nc ns l5 l6 h3 (by omega) (by omega)) (fun z => absurd rfl z)
theorem lw_22 (hN : gN G < 2 ^ 31) (hi : i + 5 < gN G) (h : Rel σ) (hc : nc ≤ 601024) (hs : ns ≤ 7293034) (k1 : ∀ σ2 nc2 ns2 l5 l6, Rel σ2 → nc2 ≤ nc + 1 → ns2 ≤ ns + 6 → mE G 1241 (lwL i l5 l6) [] σ2 nc2 ns2 Q) : mE G 1033 (lwL i l5 l6) [] σ nc ns Q := by
  obtain ⟨r, σ1, σ2, h1, h2, h3⟩ := op_row (G := G) h (gS G (i + 1)) (gS G (i + 2)) (gS G (i + 3))
  refine T_aload_n dL_law_1033 rfl ?_
  refine L_arg (j := 1) hN (by omega) dL_law_1034 dL_law_1035 dL_law_1037 rfl dL_law_1038 dL_law_1039 ?_
  refine L_arg (j := 2) hN (by omega) dL_law_1040 dL_law_1041 dL_law_1043 rfl dL_law_1044 dL_law_1045 ?_
  refine L_arg (j := 3) hN (by omega) dL_law_1046 dL_law_1047 dL_law_1049 rfl dL_law_1050 dL_law_1051 ?_
  refine L_call (as := [.int (gS G (i + 1)), .int (gS G (i + 2)), .int (gS G (i + 3))]) h1 dL_law_1052 rfl (by decide) rfl rfl rfl rfl ⟨(Nat.le_of_ble_eq_true rfl), (Nat.le_of_ble_eq_true rfl)⟩ (by intro v hv; simp at hv; rcases hv with rfl | rfl | rfl <;> rfl) (Nat.le_of_ble_eq_true rfl) (Nat.le_of_ble_eq_true rfl) hc hs ?_
  refine T_aload_n dL_law_1055 rfl ?_
  refine L_arg (j := 1) hN (by omega) dL_law_1056 dL_law_1057 dL_law_1059 rfl dL_law_1060 dL_law_1061 ?_
  refine L_arg (j := 2) hN (by omega) dL_law_1062 dL_law_1063 dL_law_1065 rfl dL_law_1066 dL_law_1067 ?_
  refine L_arg (j := 3) hN (by omega) dL_law_1068 dL_law_1069 dL_law_1071 rfl dL_law_1072 dL_law_1073 ?_
  refine L_call (as := [.int (gS G (i + 1)), .int (gS G (i + 2)), .int (gS G (i + 3))]) h2 dL_law_1074 rfl (by decide) rfl rfl rfl rfl ⟨(Nat.le_of_ble_eq_true rfl), (Nat.le_of_ble_eq_true rfl)⟩ (by intro v hv; simp at hv; rcases hv with rfl | rfl | rfl <;> rfl) (Nat.le_of_ble_eq_true rfl) (Nat.le_of_ble_eq_true rfl) hc hs ?_
  exact T_icmp_eq (tgt := 1241) dL_law_1077 rfl (fun _ => k1 σ2 nc ns l5 l6 h3 (by omega) (by omega)) (fun z => absurd rfl z)
theorem lw_23 (hN : gN G < 2 ^ 31) (hi : i + 5 < gN G) (h : Rel σ) (hc : nc ≤ 601024) (hs : ns ≤ 7293034) (k1 : ∀ σ2 nc2 ns2 l5 l6, Rel σ2 → nc2 ≤ nc + 1 → ns2 ≤ ns + 6 → mE G 1241 (lwL i l5 l6) [] σ2 nc2 ns2 Q) : mE G 1082 (lwL i l5 l6) [] σ nc ns Q := by
  obtain ⟨r, σ1, σ2, h1, h2, h3⟩ := op_swap (G := G) h (gS G (i + 1)) (gS G (i + 2)) (gS G (i + 3)) (gS G (i + 4))
  refine T_aload_n dL_law_1082 rfl ?_
  refine L_arg (j := 1) hN (by omega) dL_law_1083 dL_law_1084 dL_law_1086 rfl dL_law_1087 dL_law_1088 ?_
  refine L_arg (j := 2) hN (by omega) dL_law_1089 dL_law_1090 dL_law_1092 rfl dL_law_1093 dL_law_1094 ?_
  refine L_arg (j := 3) hN (by omega) dL_law_1095 dL_law_1096 dL_law_1098 rfl dL_law_1099 dL_law_1100 ?_
  refine L_arg (j := 4) hN (by omega) dL_law_1101 dL_law_1102 dL_law_1104 rfl dL_law_1105 dL_law_1106 ?_
  refine L_call (as := [.int (gS G (i + 1)), .int (gS G (i + 2)), .int (gS G (i + 3)), .int (gS G (i + 4))]) h1 dL_law_1107 rfl (by decide) rfl rfl rfl rfl ⟨(Nat.le_of_ble_eq_true rfl), (Nat.le_of_ble_eq_true rfl)⟩ (by intro v hv; simp at hv; rcases hv with rfl | rfl | rfl | rfl <;> rfl) (Nat.le_of_ble_eq_true rfl) (Nat.le_of_ble_eq_true rfl) hc hs ?_
  refine T_aload_n dL_law_1110 rfl ?_
  refine L_arg (j := 1) hN (by omega) dL_law_1111 dL_law_1112 dL_law_1114 rfl dL_law_1115 dL_law_1116 ?_
  refine L_arg (j := 2) hN (by omega) dL_law_1117 dL_law_1118 dL_law_1120 rfl dL_law_1121 dL_law_1122 ?_
  refine L_arg (j := 3) hN (by omega) dL_law_1123 dL_law_1124 dL_law_1126 rfl dL_law_1127 dL_law_1128 ?_
  refine L_arg (j := 4) hN (by omega) dL_law_1129 dL_law_1130 dL_law_1132 rfl dL_law_1133 dL_law_1134 ?_
  refine L_call (as := [.int (gS G (i + 1)), .int (gS G (i + 2)), .int (gS G (i + 3)), .int (gS G (i + 4))]) h2 dL_law_1135 rfl (by decide) rfl rfl rfl rfl ⟨(Nat.le_of_ble_eq_true rfl), (Nat.le_of_ble_eq_true rfl)⟩ (by intro v hv; simp at hv; rcases hv with rfl | rfl | rfl | rfl <;> rfl) (Nat.le_of_ble_eq_true rfl) (Nat.le_of_ble_eq_true rfl) hc hs ?_
  exact T_icmp_eq (tgt := 1241) dL_law_1138 rfl (fun _ => k1 σ2 nc ns l5 l6 h3 (by omega) (by omega)) (fun z => absurd rfl z)
theorem lw_24 (hN : gN G < 2 ^ 31) (hi : i + 5 < gN G) (h : Rel σ) (hc : nc ≤ 601024) (hs : ns ≤ 7293034) (k1 : ∀ σ2 nc2 ns2 l5 l6, Rel σ2 → nc2 ≤ nc + 1 → ns2 ≤ ns + 6 → mE G 1241 (lwL i l5 l6) [] σ2 nc2 ns2 Q) : mE G 1143 (lwL i l5 l6) [] σ nc ns Q := by
  obtain ⟨r, σ1, σ2, h1, h2, h3⟩ := op_without (G := G) h (gS G (i + 1)) (gS G (i + 2)) (gS G (i + 3))
  refine T_aload_n dL_law_1143 rfl ?_
  refine L_arg (j := 1) hN (by omega) dL_law_1144 dL_law_1145 dL_law_1147 rfl dL_law_1148 dL_law_1149 ?_
  refine L_arg (j := 2) hN (by omega) dL_law_1150 dL_law_1151 dL_law_1153 rfl dL_law_1154 dL_law_1155 ?_
  refine L_arg (j := 3) hN (by omega) dL_law_1156 dL_law_1157 dL_law_1159 rfl dL_law_1160 dL_law_1161 ?_
  refine L_call (as := [.int (gS G (i + 1)), .int (gS G (i + 2)), .int (gS G (i + 3))]) h1 dL_law_1162 rfl (by decide) rfl rfl rfl rfl ⟨(Nat.le_of_ble_eq_true rfl), (Nat.le_of_ble_eq_true rfl)⟩ (by intro v hv; simp at hv; rcases hv with rfl | rfl | rfl <;> rfl) (Nat.le_of_ble_eq_true rfl) (Nat.le_of_ble_eq_true rfl) hc hs ?_
  refine T_aload_n dL_law_1165 rfl ?_
  refine L_arg (j := 1) hN (by omega) dL_law_1166 dL_law_1167 dL_law_1169 rfl dL_law_1170 dL_law_1171 ?_
  refine L_arg (j := 2) hN (by omega) dL_law_1172 dL_law_1173 dL_law_1175 rfl dL_law_1176 dL_law_1177 ?_
  refine L_arg (j := 3) hN (by omega) dL_law_1178 dL_law_1179 dL_law_1181 rfl dL_law_1182 dL_law_1183 ?_
  refine L_call (as := [.int (gS G (i + 1)), .int (gS G (i + 2)), .int (gS G (i + 3))]) h2 dL_law_1184 rfl (by decide) rfl rfl rfl rfl ⟨(Nat.le_of_ble_eq_true rfl), (Nat.le_of_ble_eq_true rfl)⟩ (by intro v hv; simp at hv; rcases hv with rfl | rfl | rfl <;> rfl) (Nat.le_of_ble_eq_true rfl) (Nat.le_of_ble_eq_true rfl) hc hs ?_
  exact T_icmp_eq (tgt := 1241) dL_law_1187 rfl (fun _ => k1 σ2 nc ns l5 l6 h3 (by omega) (by omega)) (fun z => absurd rfl z)
theorem lw_25 (hN : gN G < 2 ^ 31) (hi : i + 5 < gN G) (h : Rel σ) (hc : nc ≤ 601024) (hs : ns ≤ 7293034) (k1 : ∀ σ2 nc2 ns2 l5 l6, Rel σ2 → nc2 ≤ nc + 1 → ns2 ≤ ns + 6 → mE G 1241 (lwL i l5 l6) [] σ2 nc2 ns2 Q) : mE G 1192 (lwL i l5 l6) [] σ nc ns Q := by
  obtain ⟨r, σ1, σ2, h1, h2, h3⟩ := op_ahead (G := G) h (gS G (i + 1)) (gS G (i + 2)) (gS G (i + 3))
  refine T_aload_n dL_law_1192 rfl ?_
  refine L_arg (j := 1) hN (by omega) dL_law_1193 dL_law_1194 dL_law_1196 rfl dL_law_1197 dL_law_1198 ?_
  refine L_arg (j := 2) hN (by omega) dL_law_1199 dL_law_1200 dL_law_1202 rfl dL_law_1203 dL_law_1204 ?_
  refine L_arg (j := 3) hN (by omega) dL_law_1205 dL_law_1206 dL_law_1208 rfl dL_law_1209 dL_law_1210 ?_
  refine L_call (as := [.int (gS G (i + 1)), .int (gS G (i + 2)), .int (gS G (i + 3))]) h1 dL_law_1211 rfl (by decide) rfl rfl rfl rfl ⟨(Nat.le_of_ble_eq_true rfl), (Nat.le_of_ble_eq_true rfl)⟩ (by intro v hv; simp at hv; rcases hv with rfl | rfl | rfl <;> rfl) (Nat.le_of_ble_eq_true rfl) (Nat.le_of_ble_eq_true rfl) hc hs ?_
  refine T_aload_n dL_law_1214 rfl ?_
  refine L_arg (j := 1) hN (by omega) dL_law_1215 dL_law_1216 dL_law_1218 rfl dL_law_1219 dL_law_1220 ?_
  refine L_arg (j := 2) hN (by omega) dL_law_1221 dL_law_1222 dL_law_1224 rfl dL_law_1225 dL_law_1226 ?_
  refine L_arg (j := 3) hN (by omega) dL_law_1227 dL_law_1228 dL_law_1230 rfl dL_law_1231 dL_law_1232 ?_
  refine L_call (as := [.int (gS G (i + 1)), .int (gS G (i + 2)), .int (gS G (i + 3))]) h2 dL_law_1233 rfl (by decide) rfl rfl rfl rfl ⟨(Nat.le_of_ble_eq_true rfl), (Nat.le_of_ble_eq_true rfl)⟩ (by intro v hv; simp at hv; rcases hv with rfl | rfl | rfl <;> rfl) (Nat.le_of_ble_eq_true rfl) (Nat.le_of_ble_eq_true rfl) hc hs ?_
  exact T_icmp_eq (tgt := 1241) dL_law_1236 rfl (fun _ => k1 σ2 nc ns l5 l6 h3 (by omega) (by omega)) (fun z => absurd rfl z)
end LW
