theorem dL_law_0 : decode code 0 = .ok (.new 7, 3) := by decide +kernel
theorem dL_law_3 : decode code 3 = .ok (.dup, 1) := by decide +kernel
theorem dL_law_4 : decode code 4 = .ok (.invokespecial 9, 3) := by decide +kernel
theorem dL_law_7 : decode code 7 = .ok (.astore_n 1, 1) := by decide +kernel
theorem dL_law_8 : decode code 8 = .ok (.new 10, 3) := by decide +kernel
theorem dL_law_11 : decode code 11 = .ok (.dup, 1) := by decide +kernel
theorem dL_law_12 : decode code 12 = .ok (.invokespecial 12, 3) := by decide +kernel
theorem dL_law_15 : decode code 15 = .ok (.astore_n 2, 1) := by decide +kernel
theorem dL_law_16 : decode code 16 = .ok (.iconst 0, 1) := by decide +kernel
theorem dL_law_17 : decode code 17 = .ok (.istore_n 3, 1) := by decide +kernel
theorem dL_law_18 : decode code 18 = .ok (.iload_n 3, 1) := by decide +kernel
theorem dL_law_19 : decode code 19 = .ok (.aload_n 0, 1) := by decide +kernel
theorem dL_law_20 : decode code 20 = .ok (.arraylength, 1) := by decide +kernel
theorem dL_law_21 : decode code 21 = .ok (.iconst 3, 1) := by decide +kernel
theorem dL_law_22 : decode code 22 = .ok (.isub, 1) := by decide +kernel
theorem dL_law_23 : decode code 23 = .ok (.if_icmp .gt 440, 3) := by decide +kernel
theorem dL_law_26 : decode code 26 = .ok (.aload_n 0, 1) := by decide +kernel
theorem dL_law_27 : decode code 27 = .ok (.iload_n 3, 1) := by decide +kernel
theorem dL_law_28 : decode code 28 = .ok (.iaload, 1) := by decide +kernel
theorem dL_law_29 : decode code 29 = .ok (.bipush 31, 2) := by decide +kernel
theorem dL_law_31 : decode code 31 = .ok (.iand, 1) := by decide +kernel
theorem dL_law_32 : decode code 32 = .ok (.tableswitch 425 0 16 #[84, 107, 118, 141, 152, 163, 202, 225, 248, 281, 294, 307, 330, 343, 376, 389, 412], 84) := by decide +kernel
theorem dL_law_116 : decode code 116 = .ok (.aload_n 1, 1) := by decide +kernel
theorem dL_law_117 : decode code 117 = .ok (.aload_n 0, 1) := by decide +kernel
theorem dL_law_118 : decode code 118 = .ok (.iload_n 3, 1) := by decide +kernel
theorem dL_law_119 : decode code 119 = .ok (.iconst 1, 1) := by decide +kernel
theorem dL_law_120 : decode code 120 = .ok (.iadd, 1) := by decide +kernel
theorem dL_law_121 : decode code 121 = .ok (.iaload, 1) := by decide +kernel
theorem dL_law_122 : decode code 122 = .ok (.invokevirtual 13, 3) := by decide +kernel
theorem dL_law_125 : decode code 125 = .ok (.aload_n 2, 1) := by decide +kernel
theorem dL_law_126 : decode code 126 = .ok (.aload_n 0, 1) := by decide +kernel
theorem dL_law_127 : decode code 127 = .ok (.iload_n 3, 1) := by decide +kernel
theorem dL_law_128 : decode code 128 = .ok (.iconst 1, 1) := by decide +kernel
theorem dL_law_129 : decode code 129 = .ok (.iadd, 1) := by decide +kernel
theorem dL_law_130 : decode code 130 = .ok (.iaload, 1) := by decide +kernel
theorem dL_law_131 : decode code 131 = .ok (.invokevirtual 17, 3) := by decide +kernel
theorem dL_law_134 : decode code 134 = .ok (.if_icmp .eq 323, 3) := by decide +kernel
theorem dL_law_137 : decode code 137 = .ok (.iconst 0, 1) := by decide +kernel
theorem dL_law_138 : decode code 138 = .ok (.ireturn, 1) := by decide +kernel
theorem dL_law_139 : decode code 139 = .ok (.aload_n 1, 1) := by decide +kernel
theorem dL_law_140 : decode code 140 = .ok (.invokevirtual 18, 3) := by decide +kernel
theorem dL_law_143 : decode code 143 = .ok (.aload_n 2, 1) := by decide +kernel
theorem dL_law_144 : decode code 144 = .ok (.invokevirtual 21, 3) := by decide +kernel
theorem dL_law_147 : decode code 147 = .ok (.goto 310, 3) := by decide +kernel
theorem dL_law_150 : decode code 150 = .ok (.aload_n 1, 1) := by decide +kernel
theorem dL_law_151 : decode code 151 = .ok (.aload_n 0, 1) := by decide +kernel
theorem dL_law_152 : decode code 152 = .ok (.iload_n 3, 1) := by decide +kernel
theorem dL_law_153 : decode code 153 = .ok (.iconst 1, 1) := by decide +kernel
theorem dL_law_154 : decode code 154 = .ok (.iadd, 1) := by decide +kernel
theorem dL_law_155 : decode code 155 = .ok (.iaload, 1) := by decide +kernel
theorem dL_law_156 : decode code 156 = .ok (.invokevirtual 22, 3) := by decide +kernel
theorem dL_law_159 : decode code 159 = .ok (.aload_n 2, 1) := by decide +kernel
theorem dL_law_160 : decode code 160 = .ok (.aload_n 0, 1) := by decide +kernel
theorem dL_law_161 : decode code 161 = .ok (.iload_n 3, 1) := by decide +kernel
theorem dL_law_162 : decode code 162 = .ok (.iconst 1, 1) := by decide +kernel
theorem dL_law_163 : decode code 163 = .ok (.iadd, 1) := by decide +kernel
theorem dL_law_164 : decode code 164 = .ok (.iaload, 1) := by decide +kernel
theorem dL_law_165 : decode code 165 = .ok (.invokevirtual 25, 3) := by decide +kernel
theorem dL_law_168 : decode code 168 = .ok (.if_icmp .eq 289, 3) := by decide +kernel
theorem dL_law_171 : decode code 171 = .ok (.iconst 0, 1) := by decide +kernel
theorem dL_law_172 : decode code 172 = .ok (.ireturn, 1) := by decide +kernel
theorem dL_law_173 : decode code 173 = .ok (.aload_n 1, 1) := by decide +kernel
theorem dL_law_174 : decode code 174 = .ok (.invokevirtual 26, 3) := by decide +kernel
theorem dL_law_177 : decode code 177 = .ok (.aload_n 2, 1) := by decide +kernel
theorem dL_law_178 : decode code 178 = .ok (.invokevirtual 29, 3) := by decide +kernel
theorem dL_law_181 : decode code 181 = .ok (.goto 276, 3) := by decide +kernel
theorem dL_law_184 : decode code 184 = .ok (.aload_n 1, 1) := by decide +kernel
theorem dL_law_185 : decode code 185 = .ok (.invokevirtual 30, 3) := by decide +kernel
theorem dL_law_188 : decode code 188 = .ok (.aload_n 2, 1) := by decide +kernel
theorem dL_law_189 : decode code 189 = .ok (.invokevirtual 33, 3) := by decide +kernel
theorem dL_law_192 : decode code 192 = .ok (.goto 265, 3) := by decide +kernel
theorem dL_law_195 : decode code 195 = .ok (.aload_n 1, 1) := by decide +kernel
theorem dL_law_196 : decode code 196 = .ok (.aload_n 0, 1) := by decide +kernel
theorem dL_law_197 : decode code 197 = .ok (.iload_n 3, 1) := by decide +kernel
theorem dL_law_198 : decode code 198 = .ok (.iconst 1, 1) := by decide +kernel
theorem dL_law_199 : decode code 199 = .ok (.iadd, 1) := by decide +kernel
theorem dL_law_200 : decode code 200 = .ok (.iaload, 1) := by decide +kernel
theorem dL_law_201 : decode code 201 = .ok (.ifCond .eq 7, 3) := by decide +kernel
theorem dL_law_204 : decode code 204 = .ok (.iconst 1, 1) := by decide +kernel
theorem dL_law_205 : decode code 205 = .ok (.goto 4, 3) := by decide +kernel
theorem dL_law_208 : decode code 208 = .ok (.iconst 0, 1) := by decide +kernel
theorem dL_law_209 : decode code 209 = .ok (.invokevirtual 34, 3) := by decide +kernel
theorem dL_law_212 : decode code 212 = .ok (.aload_n 2, 1) := by decide +kernel
theorem dL_law_213 : decode code 213 = .ok (.aload_n 0, 1) := by decide +kernel
theorem dL_law_214 : decode code 214 = .ok (.iload_n 3, 1) := by decide +kernel
theorem dL_law_215 : decode code 215 = .ok (.iconst 1, 1) := by decide +kernel
theorem dL_law_216 : decode code 216 = .ok (.iadd, 1) := by decide +kernel
theorem dL_law_217 : decode code 217 = .ok (.iaload, 1) := by decide +kernel
theorem dL_law_218 : decode code 218 = .ok (.ifCond .eq 7, 3) := by decide +kernel
theorem dL_law_221 : decode code 221 = .ok (.iconst 1, 1) := by decide +kernel
theorem dL_law_222 : decode code 222 = .ok (.goto 4, 3) := by decide +kernel
theorem dL_law_225 : decode code 225 = .ok (.iconst 0, 1) := by decide +kernel
theorem dL_law_226 : decode code 226 = .ok (.invokevirtual 38, 3) := by decide +kernel
theorem dL_law_229 : decode code 229 = .ok (.if_icmp .eq 228, 3) := by decide +kernel
theorem dL_law_232 : decode code 232 = .ok (.iconst 0, 1) := by decide +kernel
theorem dL_law_233 : decode code 233 = .ok (.ireturn, 1) := by decide +kernel
theorem dL_law_234 : decode code 234 = .ok (.aload_n 1, 1) := by decide +kernel
theorem dL_law_235 : decode code 235 = .ok (.aload_n 0, 1) := by decide +kernel
theorem dL_law_236 : decode code 236 = .ok (.iload_n 3, 1) := by decide +kernel
theorem dL_law_237 : decode code 237 = .ok (.iconst 1, 1) := by decide +kernel
theorem dL_law_238 : decode code 238 = .ok (.iadd, 1) := by decide +kernel
theorem dL_law_239 : decode code 239 = .ok (.iaload, 1) := by decide +kernel
theorem dL_law_240 : decode code 240 = .ok (.invokevirtual 39, 3) := by decide +kernel
theorem dL_law_243 : decode code 243 = .ok (.aload_n 2, 1) := by decide +kernel
theorem dL_law_244 : decode code 244 = .ok (.aload_n 0, 1) := by decide +kernel
theorem dL_law_245 : decode code 245 = .ok (.iload_n 3, 1) := by decide +kernel
theorem dL_law_246 : decode code 246 = .ok (.iconst 1, 1) := by decide +kernel
theorem dL_law_247 : decode code 247 = .ok (.iadd, 1) := by decide +kernel
theorem dL_law_248 : decode code 248 = .ok (.iaload, 1) := by decide +kernel
theorem dL_law_249 : decode code 249 = .ok (.invokevirtual 43, 3) := by decide +kernel
theorem dL_law_252 : decode code 252 = .ok (.if_icmp .eq 205, 3) := by decide +kernel
theorem dL_law_255 : decode code 255 = .ok (.iconst 0, 1) := by decide +kernel
theorem dL_law_256 : decode code 256 = .ok (.ireturn, 1) := by decide +kernel
theorem dL_law_257 : decode code 257 = .ok (.aload_n 1, 1) := by decide +kernel
theorem dL_law_258 : decode code 258 = .ok (.aload_n 0, 1) := by decide +kernel
theorem dL_law_259 : decode code 259 = .ok (.iload_n 3, 1) := by decide +kernel
theorem dL_law_260 : decode code 260 = .ok (.iconst 1, 1) := by decide +kernel
theorem dL_law_261 : decode code 261 = .ok (.iadd, 1) := by decide +kernel
theorem dL_law_262 : decode code 262 = .ok (.iaload, 1) := by decide +kernel
theorem dL_law_263 : decode code 263 = .ok (.invokevirtual 44, 3) := by decide +kernel
theorem dL_law_266 : decode code 266 = .ok (.aload_n 2, 1) := by decide +kernel
theorem dL_law_267 : decode code 267 = .ok (.aload_n 0, 1) := by decide +kernel
theorem dL_law_268 : decode code 268 = .ok (.iload_n 3, 1) := by decide +kernel
theorem dL_law_269 : decode code 269 = .ok (.iconst 1, 1) := by decide +kernel
theorem dL_law_270 : decode code 270 = .ok (.iadd, 1) := by decide +kernel
theorem dL_law_271 : decode code 271 = .ok (.iaload, 1) := by decide +kernel
theorem dL_law_272 : decode code 272 = .ok (.invokevirtual 47, 3) := by decide +kernel
theorem dL_law_275 : decode code 275 = .ok (.if_icmp .eq 182, 3) := by decide +kernel
theorem dL_law_278 : decode code 278 = .ok (.iconst 0, 1) := by decide +kernel
theorem dL_law_279 : decode code 279 = .ok (.ireturn, 1) := by decide +kernel
theorem dL_law_280 : decode code 280 = .ok (.aload_n 1, 1) := by decide +kernel
theorem dL_law_281 : decode code 281 = .ok (.aload_n 0, 1) := by decide +kernel
theorem dL_law_282 : decode code 282 = .ok (.iload_n 3, 1) := by decide +kernel
theorem dL_law_283 : decode code 283 = .ok (.iconst 1, 1) := by decide +kernel
theorem dL_law_284 : decode code 284 = .ok (.iadd, 1) := by decide +kernel
theorem dL_law_285 : decode code 285 = .ok (.iaload, 1) := by decide +kernel
theorem dL_law_286 : decode code 286 = .ok (.aload_n 0, 1) := by decide +kernel
theorem dL_law_287 : decode code 287 = .ok (.iload_n 3, 1) := by decide +kernel
theorem dL_law_288 : decode code 288 = .ok (.iconst 2, 1) := by decide +kernel
theorem dL_law_289 : decode code 289 = .ok (.iadd, 1) := by decide +kernel
theorem dL_law_290 : decode code 290 = .ok (.iaload, 1) := by decide +kernel
theorem dL_law_291 : decode code 291 = .ok (.invokevirtual 48, 3) := by decide +kernel
theorem dL_law_294 : decode code 294 = .ok (.aload_n 2, 1) := by decide +kernel
theorem dL_law_295 : decode code 295 = .ok (.aload_n 0, 1) := by decide +kernel
theorem dL_law_296 : decode code 296 = .ok (.iload_n 3, 1) := by decide +kernel
theorem dL_law_297 : decode code 297 = .ok (.iconst 1, 1) := by decide +kernel
theorem dL_law_298 : decode code 298 = .ok (.iadd, 1) := by decide +kernel
theorem dL_law_299 : decode code 299 = .ok (.iaload, 1) := by decide +kernel
theorem dL_law_300 : decode code 300 = .ok (.aload_n 0, 1) := by decide +kernel
theorem dL_law_301 : decode code 301 = .ok (.iload_n 3, 1) := by decide +kernel
theorem dL_law_302 : decode code 302 = .ok (.iconst 2, 1) := by decide +kernel
theorem dL_law_303 : decode code 303 = .ok (.iadd, 1) := by decide +kernel
theorem dL_law_304 : decode code 304 = .ok (.iaload, 1) := by decide +kernel
theorem dL_law_305 : decode code 305 = .ok (.invokevirtual 52, 3) := by decide +kernel
theorem dL_law_308 : decode code 308 = .ok (.if_icmp .eq 149, 3) := by decide +kernel
theorem dL_law_311 : decode code 311 = .ok (.iconst 0, 1) := by decide +kernel
theorem dL_law_312 : decode code 312 = .ok (.ireturn, 1) := by decide +kernel
theorem dL_law_313 : decode code 313 = .ok (.aload_n 1, 1) := by decide +kernel
theorem dL_law_314 : decode code 314 = .ok (.invokevirtual 53, 3) := by decide +kernel
theorem dL_law_317 : decode code 317 = .ok (.aload_n 2, 1) := by decide +kernel
theorem dL_law_318 : decode code 318 = .ok (.invokevirtual 57, 3) := by decide +kernel
theorem dL_law_321 : decode code 321 = .ok (.if_icmp .eq 136, 3) := by decide +kernel
theorem dL_law_324 : decode code 324 = .ok (.iconst 0, 1) := by decide +kernel
theorem dL_law_325 : decode code 325 = .ok (.ireturn, 1) := by decide +kernel
theorem dL_law_326 : decode code 326 = .ok (.aload_n 1, 1) := by decide +kernel
theorem dL_law_327 : decode code 327 = .ok (.invokevirtual 58, 3) := by decide +kernel
theorem dL_law_330 : decode code 330 = .ok (.aload_n 2, 1) := by decide +kernel
theorem dL_law_331 : decode code 331 = .ok (.invokevirtual 61, 3) := by decide +kernel
theorem dL_law_334 : decode code 334 = .ok (.if_icmp .eq 123, 3) := by decide +kernel
theorem dL_law_337 : decode code 337 = .ok (.iconst 0, 1) := by decide +kernel
theorem dL_law_338 : decode code 338 = .ok (.ireturn, 1) := by decide +kernel
theorem dL_law_339 : decode code 339 = .ok (.aload_n 1, 1) := by decide +kernel
theorem dL_law_340 : decode code 340 = .ok (.aload_n 0, 1) := by decide +kernel
theorem dL_law_341 : decode code 341 = .ok (.iload_n 3, 1) := by decide +kernel
theorem dL_law_342 : decode code 342 = .ok (.iconst 1, 1) := by decide +kernel
theorem dL_law_343 : decode code 343 = .ok (.iadd, 1) := by decide +kernel
theorem dL_law_344 : decode code 344 = .ok (.iaload, 1) := by decide +kernel
theorem dL_law_345 : decode code 345 = .ok (.invokevirtual 62, 3) := by decide +kernel
theorem dL_law_348 : decode code 348 = .ok (.aload_n 2, 1) := by decide +kernel
theorem dL_law_349 : decode code 349 = .ok (.aload_n 0, 1) := by decide +kernel
theorem dL_law_350 : decode code 350 = .ok (.iload_n 3, 1) := by decide +kernel
theorem dL_law_351 : decode code 351 = .ok (.iconst 1, 1) := by decide +kernel
theorem dL_law_352 : decode code 352 = .ok (.iadd, 1) := by decide +kernel
theorem dL_law_353 : decode code 353 = .ok (.iaload, 1) := by decide +kernel
theorem dL_law_354 : decode code 354 = .ok (.invokevirtual 65, 3) := by decide +kernel
theorem dL_law_357 : decode code 357 = .ok (.if_icmp .eq 100, 3) := by decide +kernel
theorem dL_law_360 : decode code 360 = .ok (.iconst 0, 1) := by decide +kernel
theorem dL_law_361 : decode code 361 = .ok (.ireturn, 1) := by decide +kernel
theorem dL_law_362 : decode code 362 = .ok (.aload_n 1, 1) := by decide +kernel
theorem dL_law_363 : decode code 363 = .ok (.invokevirtual 66, 3) := by decide +kernel
theorem dL_law_366 : decode code 366 = .ok (.aload_n 2, 1) := by decide +kernel
theorem dL_law_367 : decode code 367 = .ok (.invokevirtual 69, 3) := by decide +kernel
theorem dL_law_370 : decode code 370 = .ok (.if_icmp .eq 87, 3) := by decide +kernel
theorem dL_law_373 : decode code 373 = .ok (.iconst 0, 1) := by decide +kernel
theorem dL_law_374 : decode code 374 = .ok (.ireturn, 1) := by decide +kernel
theorem dL_law_375 : decode code 375 = .ok (.aload_n 1, 1) := by decide +kernel
theorem dL_law_376 : decode code 376 = .ok (.aload_n 0, 1) := by decide +kernel
theorem dL_law_377 : decode code 377 = .ok (.iload_n 3, 1) := by decide +kernel
theorem dL_law_378 : decode code 378 = .ok (.iconst 1, 1) := by decide +kernel
theorem dL_law_379 : decode code 379 = .ok (.iadd, 1) := by decide +kernel
theorem dL_law_380 : decode code 380 = .ok (.iaload, 1) := by decide +kernel
theorem dL_law_381 : decode code 381 = .ok (.aload_n 0, 1) := by decide +kernel
theorem dL_law_382 : decode code 382 = .ok (.iload_n 3, 1) := by decide +kernel
theorem dL_law_383 : decode code 383 = .ok (.iconst 2, 1) := by decide +kernel
theorem dL_law_384 : decode code 384 = .ok (.iadd, 1) := by decide +kernel
theorem dL_law_385 : decode code 385 = .ok (.iaload, 1) := by decide +kernel
theorem dL_law_386 : decode code 386 = .ok (.invokevirtual 70, 3) := by decide +kernel
theorem dL_law_389 : decode code 389 = .ok (.aload_n 2, 1) := by decide +kernel
theorem dL_law_390 : decode code 390 = .ok (.aload_n 0, 1) := by decide +kernel
theorem dL_law_391 : decode code 391 = .ok (.iload_n 3, 1) := by decide +kernel
theorem dL_law_392 : decode code 392 = .ok (.iconst 1, 1) := by decide +kernel
theorem dL_law_393 : decode code 393 = .ok (.iadd, 1) := by decide +kernel
theorem dL_law_394 : decode code 394 = .ok (.iaload, 1) := by decide +kernel
theorem dL_law_395 : decode code 395 = .ok (.aload_n 0, 1) := by decide +kernel
theorem dL_law_396 : decode code 396 = .ok (.iload_n 3, 1) := by decide +kernel
theorem dL_law_397 : decode code 397 = .ok (.iconst 2, 1) := by decide +kernel
theorem dL_law_398 : decode code 398 = .ok (.iadd, 1) := by decide +kernel
theorem dL_law_399 : decode code 399 = .ok (.iaload, 1) := by decide +kernel
theorem dL_law_400 : decode code 400 = .ok (.invokevirtual 73, 3) := by decide +kernel
theorem dL_law_403 : decode code 403 = .ok (.if_icmp .eq 54, 3) := by decide +kernel
theorem dL_law_406 : decode code 406 = .ok (.iconst 0, 1) := by decide +kernel
theorem dL_law_407 : decode code 407 = .ok (.ireturn, 1) := by decide +kernel
theorem dL_law_408 : decode code 408 = .ok (.aload_n 1, 1) := by decide +kernel
theorem dL_law_409 : decode code 409 = .ok (.invokevirtual 74, 3) := by decide +kernel
theorem dL_law_412 : decode code 412 = .ok (.aload_n 2, 1) := by decide +kernel
theorem dL_law_413 : decode code 413 = .ok (.invokevirtual 77, 3) := by decide +kernel
theorem dL_law_416 : decode code 416 = .ok (.if_icmp .eq 41, 3) := by decide +kernel
theorem dL_law_419 : decode code 419 = .ok (.iconst 0, 1) := by decide +kernel
theorem dL_law_420 : decode code 420 = .ok (.ireturn, 1) := by decide +kernel
theorem dL_law_421 : decode code 421 = .ok (.aload_n 1, 1) := by decide +kernel
theorem dL_law_422 : decode code 422 = .ok (.aload_n 0, 1) := by decide +kernel
theorem dL_law_423 : decode code 423 = .ok (.iload_n 3, 1) := by decide +kernel
theorem dL_law_424 : decode code 424 = .ok (.iconst 1, 1) := by decide +kernel
theorem dL_law_425 : decode code 425 = .ok (.iadd, 1) := by decide +kernel
theorem dL_law_426 : decode code 426 = .ok (.iaload, 1) := by decide +kernel
theorem dL_law_427 : decode code 427 = .ok (.invokevirtual 78, 3) := by decide +kernel
theorem dL_law_430 : decode code 430 = .ok (.aload_n 2, 1) := by decide +kernel
theorem dL_law_431 : decode code 431 = .ok (.aload_n 0, 1) := by decide +kernel
theorem dL_law_432 : decode code 432 = .ok (.iload_n 3, 1) := by decide +kernel
theorem dL_law_433 : decode code 433 = .ok (.iconst 1, 1) := by decide +kernel
theorem dL_law_434 : decode code 434 = .ok (.iadd, 1) := by decide +kernel
theorem dL_law_435 : decode code 435 = .ok (.iaload, 1) := by decide +kernel
theorem dL_law_436 : decode code 436 = .ok (.invokevirtual 81, 3) := by decide +kernel
theorem dL_law_439 : decode code 439 = .ok (.if_icmp .eq 18, 3) := by decide +kernel
theorem dL_law_442 : decode code 442 = .ok (.iconst 0, 1) := by decide +kernel
theorem dL_law_443 : decode code 443 = .ok (.ireturn, 1) := by decide +kernel
theorem dL_law_444 : decode code 444 = .ok (.aload_n 1, 1) := by decide +kernel
theorem dL_law_445 : decode code 445 = .ok (.invokevirtual 82, 3) := by decide +kernel
theorem dL_law_448 : decode code 448 = .ok (.aload_n 2, 1) := by decide +kernel
theorem dL_law_449 : decode code 449 = .ok (.invokevirtual 85, 3) := by decide +kernel
theorem dL_law_452 : decode code 452 = .ok (.if_icmp .eq 5, 3) := by decide +kernel
theorem dL_law_455 : decode code 455 = .ok (.iconst 0, 1) := by decide +kernel
theorem dL_law_456 : decode code 456 = .ok (.ireturn, 1) := by decide +kernel
theorem dL_law_457 : decode code 457 = .ok (.iinc 3 3, 3) := by decide +kernel
theorem dL_law_460 : decode code 460 = .ok (.goto (-442), 3) := by decide +kernel
theorem dL_law_463 : decode code 463 = .ok (.iconst 1, 1) := by decide +kernel
theorem dL_law_464 : decode code 464 = .ok (.ireturn, 1) := by decide +kernel
