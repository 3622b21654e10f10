/-! the names of the law's helpers -/
theorem dL_hand_205 : decode cL_hand 205 = .ok (.iload 5, 2) := by decide +kernel
theorem dL_hand_207 : decode cL_hand 207 = .ok (.aload_n 0, 1) := by decide +kernel
theorem dL_hand_208 : decode cL_hand 208 = .ok (.bipush 114, 2) := by decide +kernel
theorem dL_hand_210 : decode cL_hand 210 = .ok (.invokestatic 15, 3) := by decide +kernel
theorem dL_hand_213 : decode cL_hand 213 = .ok (.ifCond .eq 38, 3) := by decide +kernel
theorem dL_hand_216 : decode cL_hand 216 = .ok (.aload_n 0, 1) := by decide +kernel
theorem dL_hand_217 : decode cL_hand 217 = .ok (.aload_n 1, 1) := by decide +kernel
theorem dL_hand_218 : decode cL_hand 218 = .ok (.iconst 1, 1) := by decide +kernel
theorem dL_hand_219 : decode cL_hand 219 = .ok (.iaload, 1) := by decide +kernel
theorem dL_hand_220 : decode cL_hand 220 = .ok (.iconst 3, 1) := by decide +kernel
theorem dL_hand_221 : decode cL_hand 221 = .ok (.invokestatic 33, 3) := by decide +kernel
theorem dL_hand_224 : decode cL_hand 224 = .ok (.ifCond .eq 27, 3) := by decide +kernel
theorem dL_hand_227 : decode cL_hand 227 = .ok (.aload_n 0, 1) := by decide +kernel
theorem dL_hand_228 : decode cL_hand 228 = .ok (.aload_n 1, 1) := by decide +kernel
theorem dL_hand_229 : decode cL_hand 229 = .ok (.iconst 2, 1) := by decide +kernel
theorem dL_hand_230 : decode cL_hand 230 = .ok (.iaload, 1) := by decide +kernel
theorem dL_hand_231 : decode cL_hand 231 = .ok (.iconst 1, 1) := by decide +kernel
theorem dL_hand_232 : decode cL_hand 232 = .ok (.invokestatic 33, 3) := by decide +kernel
theorem dL_hand_235 : decode cL_hand 235 = .ok (.ifCond .eq 16, 3) := by decide +kernel
theorem dL_hand_238 : decode cL_hand 238 = .ok (.aload_n 0, 1) := by decide +kernel
theorem dL_hand_239 : decode cL_hand 239 = .ok (.bipush 59, 2) := by decide +kernel
theorem dL_hand_241 : decode cL_hand 241 = .ok (.invokestatic 15, 3) := by decide +kernel
theorem dL_hand_244 : decode cL_hand 244 = .ok (.ifCond .eq 7, 3) := by decide +kernel
theorem dL_hand_247 : decode cL_hand 247 = .ok (.iconst 1, 1) := by decide +kernel
theorem dL_hand_248 : decode cL_hand 248 = .ok (.goto 4, 3) := by decide +kernel
theorem dL_hand_251 : decode cL_hand 251 = .ok (.iconst 0, 1) := by decide +kernel
theorem dL_hand_252 : decode cL_hand 252 = .ok (.iand, 1) := by decide +kernel
theorem dL_hand_253 : decode cL_hand 253 = .ok (.istore 5, 2) := by decide +kernel
theorem dL_hand_255 : decode cL_hand 255 = .ok (.aload_n 2, 1) := by decide +kernel
theorem dL_hand_256 : decode cL_hand 256 = .ok (.iload_n 3, 1) := by decide +kernel
theorem dL_hand_257 : decode cL_hand 257 = .ok (.bipush 7, 2) := by decide +kernel
theorem dL_hand_259 : decode cL_hand 259 = .ok (.iadd, 1) := by decide +kernel
theorem dL_hand_260 : decode cL_hand 260 = .ok (.invokestatic 21, 3) := by decide +kernel
theorem dL_hand_263 : decode cL_hand 263 = .ok (.istore 4, 2) := by decide +kernel
theorem dL_hand_265 : decode cL_hand 265 = .ok (.aload_n 1, 1) := by decide +kernel
theorem dL_hand_266 : decode cL_hand 266 = .ok (.iconst 4, 1) := by decide +kernel
theorem dL_hand_267 : decode cL_hand 267 = .ok (.iload 4, 2) := by decide +kernel
theorem dL_hand_269 : decode cL_hand 269 = .ok (.bipush 31, 2) := by decide +kernel
theorem dL_hand_271 : decode cL_hand 271 = .ok (.iand, 1) := by decide +kernel
theorem dL_hand_272 : decode cL_hand 272 = .ok (.bipush 31, 2) := by decide +kernel
theorem dL_hand_274 : decode cL_hand 274 = .ok (.irem, 1) := by decide +kernel
theorem dL_hand_275 : decode cL_hand 275 = .ok (.iastore, 1) := by decide +kernel
theorem dL_hand_276 : decode cL_hand 276 = .ok (.aload_n 1, 1) := by decide +kernel
theorem dL_hand_277 : decode cL_hand 277 = .ok (.iconst 5, 1) := by decide +kernel
theorem dL_hand_278 : decode cL_hand 278 = .ok (.iload 4, 2) := by decide +kernel
theorem dL_hand_280 : decode cL_hand 280 = .ok (.iconst 5, 1) := by decide +kernel
theorem dL_hand_281 : decode cL_hand 281 = .ok (.ishr, 1) := by decide +kernel
theorem dL_hand_282 : decode cL_hand 282 = .ok (.bipush 31, 2) := by decide +kernel
theorem dL_hand_284 : decode cL_hand 284 = .ok (.iand, 1) := by decide +kernel
theorem dL_hand_285 : decode cL_hand 285 = .ok (.bipush 21, 2) := by decide +kernel
theorem dL_hand_287 : decode cL_hand 287 = .ok (.irem, 1) := by decide +kernel
theorem dL_hand_288 : decode cL_hand 288 = .ok (.iastore, 1) := by decide +kernel
theorem dL_hand_289 : decode cL_hand 289 = .ok (.aload_n 1, 1) := by decide +kernel
theorem dL_hand_290 : decode cL_hand 290 = .ok (.bipush 7, 2) := by decide +kernel
theorem dL_hand_292 : decode cL_hand 292 = .ok (.iload 4, 2) := by decide +kernel
theorem dL_hand_294 : decode cL_hand 294 = .ok (.bipush 10, 2) := by decide +kernel
theorem dL_hand_296 : decode cL_hand 296 = .ok (.ishr, 1) := by decide +kernel
theorem dL_hand_297 : decode cL_hand 297 = .ok (.bipush 15, 2) := by decide +kernel
theorem dL_hand_299 : decode cL_hand 299 = .ok (.iand, 1) := by decide +kernel
theorem dL_hand_300 : decode cL_hand 300 = .ok (.bipush 10, 2) := by decide +kernel
theorem dL_hand_302 : decode cL_hand 302 = .ok (.irem, 1) := by decide +kernel
theorem dL_hand_303 : decode cL_hand 303 = .ok (.iastore, 1) := by decide +kernel
theorem dL_hand_304 : decode cL_hand 304 = .ok (.iload 5, 2) := by decide +kernel
theorem dL_hand_306 : decode cL_hand 306 = .ok (.aload_n 0, 1) := by decide +kernel
theorem dL_hand_307 : decode cL_hand 307 = .ok (.bipush 115, 2) := by decide +kernel
theorem dL_hand_309 : decode cL_hand 309 = .ok (.invokestatic 15, 3) := by decide +kernel
theorem dL_hand_312 : decode cL_hand 312 = .ok (.ifCond .eq 86, 3) := by decide +kernel
theorem dL_hand_315 : decode cL_hand 315 = .ok (.aload_n 0, 1) := by decide +kernel
theorem dL_hand_316 : decode cL_hand 316 = .ok (.aload_n 1, 1) := by decide +kernel
theorem dL_hand_317 : decode cL_hand 317 = .ok (.iconst 4, 1) := by decide +kernel
theorem dL_hand_318 : decode cL_hand 318 = .ok (.iaload, 1) := by decide +kernel
theorem dL_hand_319 : decode cL_hand 319 = .ok (.iconst 2, 1) := by decide +kernel
theorem dL_hand_320 : decode cL_hand 320 = .ok (.invokestatic 33, 3) := by decide +kernel
theorem dL_hand_323 : decode cL_hand 323 = .ok (.ifCond .eq 75, 3) := by decide +kernel
theorem dL_hand_326 : decode cL_hand 326 = .ok (.aload_n 0, 1) := by decide +kernel
theorem dL_hand_327 : decode cL_hand 327 = .ok (.bipush 59, 2) := by decide +kernel
theorem dL_hand_329 : decode cL_hand 329 = .ok (.invokestatic 15, 3) := by decide +kernel
theorem dL_hand_332 : decode cL_hand 332 = .ok (.ifCond .eq 66, 3) := by decide +kernel
theorem dL_hand_335 : decode cL_hand 335 = .ok (.aload_n 0, 1) := by decide +kernel
theorem dL_hand_336 : decode cL_hand 336 = .ok (.bipush 99, 2) := by decide +kernel
theorem dL_hand_338 : decode cL_hand 338 = .ok (.invokestatic 15, 3) := by decide +kernel
theorem dL_hand_341 : decode cL_hand 341 = .ok (.ifCond .eq 57, 3) := by decide +kernel
theorem dL_hand_344 : decode cL_hand 344 = .ok (.aload_n 0, 1) := by decide +kernel
theorem dL_hand_345 : decode cL_hand 345 = .ok (.aload_n 1, 1) := by decide +kernel
theorem dL_hand_346 : decode cL_hand 346 = .ok (.iconst 5, 1) := by decide +kernel
theorem dL_hand_347 : decode cL_hand 347 = .ok (.iaload, 1) := by decide +kernel
theorem dL_hand_348 : decode cL_hand 348 = .ok (.iconst 2, 1) := by decide +kernel
theorem dL_hand_349 : decode cL_hand 349 = .ok (.invokestatic 33, 3) := by decide +kernel
theorem dL_hand_352 : decode cL_hand 352 = .ok (.ifCond .eq 46, 3) := by decide +kernel
theorem dL_hand_355 : decode cL_hand 355 = .ok (.aload_n 0, 1) := by decide +kernel
theorem dL_hand_356 : decode cL_hand 356 = .ok (.bipush 59, 2) := by decide +kernel
theorem dL_hand_358 : decode cL_hand 358 = .ok (.invokestatic 15, 3) := by decide +kernel
theorem dL_hand_361 : decode cL_hand 361 = .ok (.ifCond .eq 37, 3) := by decide +kernel
theorem dL_hand_364 : decode cL_hand 364 = .ok (.aload_n 0, 1) := by decide +kernel
theorem dL_hand_365 : decode cL_hand 365 = .ok (.bipush 104, 2) := by decide +kernel
theorem dL_hand_367 : decode cL_hand 367 = .ok (.invokestatic 15, 3) := by decide +kernel
theorem dL_hand_370 : decode cL_hand 370 = .ok (.ifCond .eq 28, 3) := by decide +kernel
theorem dL_hand_373 : decode cL_hand 373 = .ok (.aload_n 0, 1) := by decide +kernel
theorem dL_hand_374 : decode cL_hand 374 = .ok (.aload_n 1, 1) := by decide +kernel
theorem dL_hand_375 : decode cL_hand 375 = .ok (.bipush 7, 2) := by decide +kernel
theorem dL_hand_377 : decode cL_hand 377 = .ok (.iaload, 1) := by decide +kernel
theorem dL_hand_378 : decode cL_hand 378 = .ok (.iconst 1, 1) := by decide +kernel
theorem dL_hand_379 : decode cL_hand 379 = .ok (.invokestatic 33, 3) := by decide +kernel
theorem dL_hand_382 : decode cL_hand 382 = .ok (.ifCond .eq 16, 3) := by decide +kernel
theorem dL_hand_385 : decode cL_hand 385 = .ok (.aload_n 0, 1) := by decide +kernel
theorem dL_hand_386 : decode cL_hand 386 = .ok (.bipush 59, 2) := by decide +kernel
theorem dL_hand_388 : decode cL_hand 388 = .ok (.invokestatic 15, 3) := by decide +kernel
theorem dL_hand_391 : decode cL_hand 391 = .ok (.ifCond .eq 7, 3) := by decide +kernel
theorem dL_hand_394 : decode cL_hand 394 = .ok (.iconst 1, 1) := by decide +kernel
theorem dL_hand_395 : decode cL_hand 395 = .ok (.goto 4, 3) := by decide +kernel
