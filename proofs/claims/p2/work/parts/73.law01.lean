theorem dL_law_223 : decode code 223 = .ok (.lshl, 1) := by decide +kernel
theorem dL_law_224 : decode code 224 = .ok (.aload_n 0, 1) := by decide +kernel
theorem dL_law_225 : decode code 225 = .ok (.iload 4, 2) := by decide +kernel
theorem dL_law_227 : decode code 227 = .ok (.iconst 2, 1) := by decide +kernel
theorem dL_law_228 : decode code 228 = .ok (.iadd, 1) := by decide +kernel
theorem dL_law_229 : decode code 229 = .ok (.iaload, 1) := by decide +kernel
theorem dL_law_230 : decode code 230 = .ok (.i2l, 1) := by decide +kernel
theorem dL_law_231 : decode code 231 = .ok (.ldc2_w 75, 3) := by decide +kernel
theorem dL_law_234 : decode code 234 = .ok (.land, 1) := by decide +kernel
theorem dL_law_235 : decode code 235 = .ok (.lor, 1) := by decide +kernel
theorem dL_law_236 : decode code 236 = .ok (.aload_n 0, 1) := by decide +kernel
theorem dL_law_237 : decode code 237 = .ok (.iload 4, 2) := by decide +kernel
theorem dL_law_239 : decode code 239 = .ok (.iconst 3, 1) := by decide +kernel
theorem dL_law_240 : decode code 240 = .ok (.iadd, 1) := by decide +kernel
theorem dL_law_241 : decode code 241 = .ok (.iaload, 1) := by decide +kernel
theorem dL_law_242 : decode code 242 = .ok (.i2l, 1) := by decide +kernel
theorem dL_law_243 : decode code 243 = .ok (.bipush 32, 2) := by decide +kernel
theorem dL_law_245 : decode code 245 = .ok (.lshl, 1) := by decide +kernel
theorem dL_law_246 : decode code 246 = .ok (.aload_n 0, 1) := by decide +kernel
theorem dL_law_247 : decode code 247 = .ok (.iload 4, 2) := by decide +kernel
theorem dL_law_249 : decode code 249 = .ok (.iconst 4, 1) := by decide +kernel
theorem dL_law_250 : decode code 250 = .ok (.iadd, 1) := by decide +kernel
theorem dL_law_251 : decode code 251 = .ok (.iaload, 1) := by decide +kernel
theorem dL_law_252 : decode code 252 = .ok (.i2l, 1) := by decide +kernel
theorem dL_law_253 : decode code 253 = .ok (.ldc2_w 75, 3) := by decide +kernel
theorem dL_law_256 : decode code 256 = .ok (.land, 1) := by decide +kernel
theorem dL_law_257 : decode code 257 = .ok (.lor, 1) := by decide +kernel
theorem dL_law_258 : decode code 258 = .ok (.aload_n 0, 1) := by decide +kernel
theorem dL_law_259 : decode code 259 = .ok (.iload 4, 2) := by decide +kernel
theorem dL_law_261 : decode code 261 = .ok (.iconst 5, 1) := by decide +kernel
theorem dL_law_262 : decode code 262 = .ok (.iadd, 1) := by decide +kernel
theorem dL_law_263 : decode code 263 = .ok (.iaload, 1) := by decide +kernel
theorem dL_law_264 : decode code 264 = .ok (.invokevirtual 80, 3) := by decide +kernel
theorem dL_law_267 : decode code 267 = .ok (.istore 6, 2) := by decide +kernel
theorem dL_law_269 : decode code 269 = .ok (.aload_n 2, 1) := by decide +kernel
theorem dL_law_270 : decode code 270 = .ok (.invokevirtual 81, 3) := by decide +kernel
theorem dL_law_273 : decode code 273 = .ok (.iload 5, 2) := by decide +kernel
theorem dL_law_275 : decode code 275 = .ok (.if_icmp .eq (5), 3) := by decide +kernel
theorem dL_law_280 : decode code 280 = .ok (.iload 5, 2) := by decide +kernel
theorem dL_law_282 : decode code 282 = .ok (.ifCond .ne (15), 3) := by decide +kernel
theorem dL_law_285 : decode code 285 = .ok (.aload_n 3, 1) := by decide +kernel
theorem dL_law_286 : decode code 286 = .ok (.iconst 0, 1) := by decide +kernel
theorem dL_law_287 : decode code 287 = .ok (.laload, 1) := by decide +kernel
theorem dL_law_288 : decode code 288 = .ok (.iload 6, 2) := by decide +kernel
theorem dL_law_290 : decode code 290 = .ok (.i2l, 1) := by decide +kernel
theorem dL_law_291 : decode code 291 = .ok (.lcmp, 1) := by decide +kernel
theorem dL_law_292 : decode code 292 = .ok (.ifCond .eq (5), 3) := by decide +kernel
theorem dL_law_297 : decode code 297 = .ok (.goto (1057), 3) := by decide +kernel
theorem dL_law_300 : decode code 300 = .ok (.aload_n 1, 1) := by decide +kernel
theorem dL_law_301 : decode code 301 = .ok (.aload_n 0, 1) := by decide +kernel
theorem dL_law_302 : decode code 302 = .ok (.iload 4, 2) := by decide +kernel
theorem dL_law_304 : decode code 304 = .ok (.iconst 1, 1) := by decide +kernel
theorem dL_law_305 : decode code 305 = .ok (.iadd, 1) := by decide +kernel
theorem dL_law_306 : decode code 306 = .ok (.iaload, 1) := by decide +kernel
theorem dL_law_307 : decode code 307 = .ok (.aload_n 0, 1) := by decide +kernel
theorem dL_law_308 : decode code 308 = .ok (.iload 4, 2) := by decide +kernel
theorem dL_law_310 : decode code 310 = .ok (.iconst 2, 1) := by decide +kernel
theorem dL_law_311 : decode code 311 = .ok (.iadd, 1) := by decide +kernel
theorem dL_law_312 : decode code 312 = .ok (.iaload, 1) := by decide +kernel
theorem dL_law_313 : decode code 313 = .ok (.i2l, 1) := by decide +kernel
theorem dL_law_314 : decode code 314 = .ok (.bipush 32, 2) := by decide +kernel
theorem dL_law_316 : decode code 316 = .ok (.lshl, 1) := by decide +kernel
theorem dL_law_317 : decode code 317 = .ok (.aload_n 0, 1) := by decide +kernel
theorem dL_law_318 : decode code 318 = .ok (.iload 4, 2) := by decide +kernel
theorem dL_law_320 : decode code 320 = .ok (.iconst 3, 1) := by decide +kernel
theorem dL_law_321 : decode code 321 = .ok (.iadd, 1) := by decide +kernel
theorem dL_law_322 : decode code 322 = .ok (.iaload, 1) := by decide +kernel
theorem dL_law_323 : decode code 323 = .ok (.i2l, 1) := by decide +kernel
theorem dL_law_324 : decode code 324 = .ok (.ldc2_w 75, 3) := by decide +kernel
theorem dL_law_327 : decode code 327 = .ok (.land, 1) := by decide +kernel
theorem dL_law_328 : decode code 328 = .ok (.lor, 1) := by decide +kernel
theorem dL_law_329 : decode code 329 = .ok (.aload_n 0, 1) := by decide +kernel
theorem dL_law_330 : decode code 330 = .ok (.iload 4, 2) := by decide +kernel
theorem dL_law_332 : decode code 332 = .ok (.iconst 4, 1) := by decide +kernel
theorem dL_law_333 : decode code 333 = .ok (.iadd, 1) := by decide +kernel
theorem dL_law_334 : decode code 334 = .ok (.iaload, 1) := by decide +kernel
theorem dL_law_335 : decode code 335 = .ok (.i2l, 1) := by decide +kernel
theorem dL_law_336 : decode code 336 = .ok (.bipush 32, 2) := by decide +kernel
theorem dL_law_338 : decode code 338 = .ok (.lshl, 1) := by decide +kernel
theorem dL_law_339 : decode code 339 = .ok (.aload_n 0, 1) := by decide +kernel
theorem dL_law_340 : decode code 340 = .ok (.iload 4, 2) := by decide +kernel
theorem dL_law_342 : decode code 342 = .ok (.iconst 5, 1) := by decide +kernel
theorem dL_law_343 : decode code 343 = .ok (.iadd, 1) := by decide +kernel
theorem dL_law_344 : decode code 344 = .ok (.iaload, 1) := by decide +kernel
theorem dL_law_345 : decode code 345 = .ok (.i2l, 1) := by decide +kernel
theorem dL_law_346 : decode code 346 = .ok (.ldc2_w 75, 3) := by decide +kernel
theorem dL_law_349 : decode code 349 = .ok (.land, 1) := by decide +kernel
theorem dL_law_350 : decode code 350 = .ok (.lor, 1) := by decide +kernel
theorem dL_law_351 : decode code 351 = .ok (.aload_n 0, 1) := by decide +kernel
theorem dL_law_352 : decode code 352 = .ok (.iload 4, 2) := by decide +kernel
theorem dL_law_354 : decode code 354 = .ok (.bipush 6, 2) := by decide +kernel
theorem dL_law_356 : decode code 356 = .ok (.iadd, 1) := by decide +kernel
theorem dL_law_357 : decode code 357 = .ok (.iaload, 1) := by decide +kernel
theorem dL_law_358 : decode code 358 = .ok (.aload_n 3, 1) := by decide +kernel
theorem dL_law_359 : decode code 359 = .ok (.invokestatic 85, 3) := by decide +kernel
theorem dL_law_362 : decode code 362 = .ok (.istore 5, 2) := by decide +kernel
theorem dL_law_364 : decode code 364 = .ok (.aload_n 2, 1) := by decide +kernel
theorem dL_law_365 : decode code 365 = .ok (.aload_n 0, 1) := by decide +kernel
theorem dL_law_366 : decode code 366 = .ok (.iload 4, 2) := by decide +kernel
theorem dL_law_368 : decode code 368 = .ok (.iconst 1, 1) := by decide +kernel
