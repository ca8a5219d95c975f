theorem dL_law_223 : decode code 223 = .ok (.lshl, 1) := by decide +kernel
theorem dL_law_224 : decode code 224 = .ok (.aload_n 0, 1) := by decide +kernel
theorem dL_law_225 : decode code 225 = .ok (.iload 4, 2) := by decide +kernel
theorem dL_law_227 : decode code 227 = .ok (.iconst 2, 1) := by decide +kernel
theorem dL_law_228 : decode code 228 = .ok (.iadd, 1) := by decide +kernel
theorem dL_law_229 : decode code 229 = .ok (.iaload, 1) := by decide +kernel
theorem dL_law_230 : decode code 230 = .ok (.i2l, 1) := by decide +kernel
theorem dL_law_231 : decode code 231 = .ok (.ldc2_w 75, 3) := by decide +kernel
theorem dL_law_234 : decode code 234 = .ok (.land, 1) := by decide +kernel
theorem dL_law_235 : decode code 235 = .ok (.lor, 1) := by decide +kernel
theorem dL_law_236 : decode code 236 = .ok (.aload_n 0, 1) := by decide +kernel
theorem dL_law_237 : decode code 237 = .ok (.iload 4, 2) := by decide +kernel
theorem dL_law_239 : decode code 239 = .ok (.iconst 3, 1) := by decide +kernel
theorem dL_law_240 : decode code 240 = .ok (.iadd, 1) := by decide +kernel
theorem dL_law_241 : decode code 241 = .ok (.iaload, 1) := by decide +kernel
theorem dL_law_242 : decode code 242 = .ok (.i2l, 1) := by decide +kernel
theorem dL_law_243 : decode code 243 = .ok (.bipush 32, 2) := by decide +kernel
theorem dL_law_245 : decode code 245 = .ok (.lshl, 1) := by decide +kernel
theorem dL_law_246 : decode code 246 = .ok (.aload_n 0, 1) := by decide +kernel
theorem dL_law_247 : decode code 247 = .ok (.iload 4, 2) := by decide +kernel
theorem dL_law_249 : decode code 249 = .ok (.iconst 4, 1) := by decide +kernel
theorem dL_law_250 : decode code 250 = .ok (.iadd, 1) := by decide +kernel
theorem dL_law_251 : decode code 251 = .ok (.iaload, 1) := by decide +kernel
theorem dL_law_252 : decode code 252 = .ok (.i2l, 1) := by decide +kernel
theorem dL_law_253 : decode code 253 = .ok (.ldc2_w 75, 3) := by decide +kernel
theorem dL_law_256 : decode code 256 = .ok (.land, 1) := by decide +kernel
theorem dL_law_257 : decode code 257 = .ok (.lor, 1) := by decide +kernel
theorem dL_law_258 : decode code 258 = .ok (.aload_n 0, 1) := by decide +kernel
theorem dL_law_259 : decode code 259 = .ok (.iload 4, 2) := by decide +kernel
theorem dL_law_261 : decode code 261 = .ok (.iconst 5, 1) := by decide +kernel
theorem dL_law_262 : decode code 262 = .ok (.iadd, 1) := by decide +kernel
theorem dL_law_263 : decode code 263 = .ok (.iaload, 1) := by decide +kernel
theorem dL_law_264 : decode code 264 = .ok (.invokevirtual 80, 3) := by decide +kernel
theorem dL_law_267 : decode code 267 = .ok (.istore 6, 2) := by decide +kernel
theorem dL_law_269 : decode code 269 = .ok (.goto (1057), 3) := by decide +kernel
theorem dL_law_272 : decode code 272 = .ok (.aload_n 1, 1) := by decide +kernel
theorem dL_law_273 : decode code 273 = .ok (.aload_n 0, 1) := by decide +kernel
theorem dL_law_274 : decode code 274 = .ok (.iload 4, 2) := by decide +kernel
theorem dL_law_276 : decode code 276 = .ok (.iconst 1, 1) := by decide +kernel
theorem dL_law_277 : decode code 277 = .ok (.iadd, 1) := by decide +kernel
theorem dL_law_278 : decode code 278 = .ok (.iaload, 1) := by decide +kernel
theorem dL_law_279 : decode code 279 = .ok (.aload_n 0, 1) := by decide +kernel
theorem dL_law_280 : decode code 280 = .ok (.iload 4, 2) := by decide +kernel
theorem dL_law_282 : decode code 282 = .ok (.iconst 2, 1) := by decide +kernel
theorem dL_law_283 : decode code 283 = .ok (.iadd, 1) := by decide +kernel
theorem dL_law_284 : decode code 284 = .ok (.iaload, 1) := by decide +kernel
theorem dL_law_285 : decode code 285 = .ok (.i2l, 1) := by decide +kernel
theorem dL_law_286 : decode code 286 = .ok (.bipush 32, 2) := by decide +kernel
theorem dL_law_288 : decode code 288 = .ok (.lshl, 1) := by decide +kernel
theorem dL_law_289 : decode code 289 = .ok (.aload_n 0, 1) := by decide +kernel
theorem dL_law_290 : decode code 290 = .ok (.iload 4, 2) := by decide +kernel
theorem dL_law_292 : decode code 292 = .ok (.iconst 3, 1) := by decide +kernel
theorem dL_law_293 : decode code 293 = .ok (.iadd, 1) := by decide +kernel
theorem dL_law_294 : decode code 294 = .ok (.iaload, 1) := by decide +kernel
theorem dL_law_295 : decode code 295 = .ok (.i2l, 1) := by decide +kernel
theorem dL_law_296 : decode code 296 = .ok (.ldc2_w 75, 3) := by decide +kernel
theorem dL_law_299 : decode code 299 = .ok (.land, 1) := by decide +kernel
theorem dL_law_300 : decode code 300 = .ok (.lor, 1) := by decide +kernel
theorem dL_law_301 : decode code 301 = .ok (.aload_n 0, 1) := by decide +kernel
theorem dL_law_302 : decode code 302 = .ok (.iload 4, 2) := by decide +kernel
theorem dL_law_304 : decode code 304 = .ok (.iconst 4, 1) := by decide +kernel
theorem dL_law_305 : decode code 305 = .ok (.iadd, 1) := by decide +kernel
theorem dL_law_306 : decode code 306 = .ok (.iaload, 1) := by decide +kernel
theorem dL_law_307 : decode code 307 = .ok (.i2l, 1) := by decide +kernel
theorem dL_law_308 : decode code 308 = .ok (.bipush 32, 2) := by decide +kernel
theorem dL_law_310 : decode code 310 = .ok (.lshl, 1) := by decide +kernel
theorem dL_law_311 : decode code 311 = .ok (.aload_n 0, 1) := by decide +kernel
theorem dL_law_312 : decode code 312 = .ok (.iload 4, 2) := by decide +kernel
theorem dL_law_314 : decode code 314 = .ok (.iconst 5, 1) := by decide +kernel
theorem dL_law_315 : decode code 315 = .ok (.iadd, 1) := by decide +kernel
theorem dL_law_316 : decode code 316 = .ok (.iaload, 1) := by decide +kernel
theorem dL_law_317 : decode code 317 = .ok (.i2l, 1) := by decide +kernel
theorem dL_law_318 : decode code 318 = .ok (.ldc2_w 75, 3) := by decide +kernel
theorem dL_law_321 : decode code 321 = .ok (.land, 1) := by decide +kernel
theorem dL_law_322 : decode code 322 = .ok (.lor, 1) := by decide +kernel
theorem dL_law_323 : decode code 323 = .ok (.aload_n 0, 1) := by decide +kernel
theorem dL_law_324 : decode code 324 = .ok (.iload 4, 2) := by decide +kernel
theorem dL_law_326 : decode code 326 = .ok (.bipush 6, 2) := by decide +kernel
theorem dL_law_328 : decode code 328 = .ok (.iadd, 1) := by decide +kernel
theorem dL_law_329 : decode code 329 = .ok (.iaload, 1) := by decide +kernel
theorem dL_law_330 : decode code 330 = .ok (.aload_n 3, 1) := by decide +kernel
theorem dL_law_331 : decode code 331 = .ok (.invokestatic 81, 3) := by decide +kernel
theorem dL_law_334 : decode code 334 = .ok (.istore 5, 2) := by decide +kernel
theorem dL_law_336 : decode code 336 = .ok (.aload_n 2, 1) := by decide +kernel
theorem dL_law_337 : decode code 337 = .ok (.aload_n 0, 1) := by decide +kernel
theorem dL_law_338 : decode code 338 = .ok (.iload 4, 2) := by decide +kernel
theorem dL_law_340 : decode code 340 = .ok (.iconst 1, 1) := by decide +kernel
theorem dL_law_341 : decode code 341 = .ok (.iadd, 1) := by decide +kernel
theorem dL_law_342 : decode code 342 = .ok (.iaload, 1) := by decide +kernel
theorem dL_law_343 : decode code 343 = .ok (.aload_n 0, 1) := by decide +kernel
theorem dL_law_344 : decode code 344 = .ok (.iload 4, 2) := by decide +kernel
theorem dL_law_346 : decode code 346 = .ok (.iconst 2, 1) := by decide +kernel
theorem dL_law_347 : decode code 347 = .ok (.iadd, 1) := by decide +kernel
theorem dL_law_348 : decode code 348 = .ok (.iaload, 1) := by decide +kernel
theorem dL_law_349 : decode code 349 = .ok (.i2l, 1) := by decide +kernel
theorem dL_law_350 : decode code 350 = .ok (.bipush 32, 2) := by decide +kernel
theorem dL_law_352 : decode code 352 = .ok (.lshl, 1) := by decide +kernel
theorem dL_law_353 : decode code 353 = .ok (.aload_n 0, 1) := by decide +kernel
theorem dL_law_354 : decode code 354 = .ok (.iload 4, 2) := by decide +kernel
theorem dL_law_356 : decode code 356 = .ok (.iconst 3, 1) := by decide +kernel
