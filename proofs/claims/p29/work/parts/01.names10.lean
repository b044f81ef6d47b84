theorem dL_refuses_197 : decode cL_refuses 197 = .ok (.ldc 64, 2) := by decide +kernel
theorem dL_refuses_199 : decode cL_refuses 199 = .ok (.if_icmp .ne 7, 3) := by decide +kernel
theorem dL_refuses_202 : decode cL_refuses 202 = .ok (.iconst 1, 1) := by decide +kernel
theorem dL_refuses_203 : decode cL_refuses 203 = .ok (.goto 4, 3) := by decide +kernel
theorem dL_refuses_206 : decode cL_refuses 206 = .ok (.iconst 0, 1) := by decide +kernel
theorem dL_refuses_207 : decode cL_refuses 207 = .ok (.istore_n 3, 1) := by decide +kernel
theorem dL_refuses_208 : decode cL_refuses 208 = .ok (.iload_n 3, 1) := by decide +kernel
theorem dL_refuses_209 : decode cL_refuses 209 = .ok (.ifCond .eq 189, 3) := by decide +kernel
theorem dL_refuses_212 : decode cL_refuses 212 = .ok (.aload_n 0, 1) := by decide +kernel
theorem dL_refuses_213 : decode cL_refuses 213 = .ok (.iconst 0, 1) := by decide +kernel
theorem dL_refuses_214 : decode cL_refuses 214 = .ok (.iload_n 1, 1) := by decide +kernel
theorem dL_refuses_215 : decode cL_refuses 215 = .ok (.invokevirtual 86, 3) := by decide +kernel
theorem dL_refuses_218 : decode cL_refuses 218 = .ok (.ldc 72, 2) := by decide +kernel
theorem dL_refuses_220 : decode cL_refuses 220 = .ok (.if_icmp .ne 178, 3) := by decide +kernel
theorem dL_refuses_223 : decode cL_refuses 223 = .ok (.aload_n 0, 1) := by decide +kernel
theorem dL_refuses_224 : decode cL_refuses 224 = .ok (.iload_n 1, 1) := by decide +kernel
theorem dL_refuses_225 : decode cL_refuses 225 = .ok (.iconst 0, 1) := by decide +kernel
theorem dL_refuses_226 : decode cL_refuses 226 = .ok (.invokevirtual 89, 3) := by decide +kernel
theorem dL_refuses_229 : decode cL_refuses 229 = .ok (.ldc 72, 2) := by decide +kernel
theorem dL_refuses_231 : decode cL_refuses 231 = .ok (.if_icmp .ne 167, 3) := by decide +kernel
theorem dL_refuses_234 : decode cL_refuses 234 = .ok (.aload_n 0, 1) := by decide +kernel
theorem dL_refuses_235 : decode cL_refuses 235 = .ok (.iconst 0, 1) := by decide +kernel
theorem dL_refuses_236 : decode cL_refuses 236 = .ok (.iconst 0, 1) := by decide +kernel
theorem dL_refuses_237 : decode cL_refuses 237 = .ok (.invokevirtual 52, 3) := by decide +kernel
theorem dL_refuses_240 : decode cL_refuses 240 = .ok (.ldc 72, 2) := by decide +kernel
theorem dL_refuses_242 : decode cL_refuses 242 = .ok (.if_icmp .ne 156, 3) := by decide +kernel
theorem dL_refuses_245 : decode cL_refuses 245 = .ok (.aload_n 0, 1) := by decide +kernel
theorem dL_refuses_246 : decode cL_refuses 246 = .ok (.iconst 0, 1) := by decide +kernel
theorem dL_refuses_247 : decode cL_refuses 247 = .ok (.iload_n 1, 1) := by decide +kernel
theorem dL_refuses_248 : decode cL_refuses 248 = .ok (.iconst 0, 1) := by decide +kernel
theorem dL_refuses_249 : decode cL_refuses 249 = .ok (.invokevirtual 29, 3) := by decide +kernel
theorem dL_refuses_252 : decode cL_refuses 252 = .ok (.ldc 72, 2) := by decide +kernel
theorem dL_refuses_254 : decode cL_refuses 254 = .ok (.if_icmp .ne 144, 3) := by decide +kernel
theorem dL_refuses_257 : decode cL_refuses 257 = .ok (.aload_n 0, 1) := by decide +kernel
theorem dL_refuses_258 : decode cL_refuses 258 = .ok (.iconst 0, 1) := by decide +kernel
theorem dL_refuses_259 : decode cL_refuses 259 = .ok (.iconst 0, 1) := by decide +kernel
theorem dL_refuses_260 : decode cL_refuses 260 = .ok (.invokevirtual 55, 3) := by decide +kernel
theorem dL_refuses_263 : decode cL_refuses 263 = .ok (.ldc 72, 2) := by decide +kernel
theorem dL_refuses_265 : decode cL_refuses 265 = .ok (.if_icmp .ne 133, 3) := by decide +kernel
theorem dL_refuses_268 : decode cL_refuses 268 = .ok (.aload_n 0, 1) := by decide +kernel
theorem dL_refuses_269 : decode cL_refuses 269 = .ok (.iconst 0, 1) := by decide +kernel
theorem dL_refuses_270 : decode cL_refuses 270 = .ok (.iload_n 1, 1) := by decide +kernel
theorem dL_refuses_271 : decode cL_refuses 271 = .ok (.invokevirtual 58, 3) := by decide +kernel
theorem dL_refuses_274 : decode cL_refuses 274 = .ok (.ldc 72, 2) := by decide +kernel
theorem dL_refuses_276 : decode cL_refuses 276 = .ok (.if_icmp .ne 122, 3) := by decide +kernel
theorem dL_refuses_279 : decode cL_refuses 279 = .ok (.aload_n 0, 1) := by decide +kernel
theorem dL_refuses_280 : decode cL_refuses 280 = .ok (.iload_n 1, 1) := by decide +kernel
theorem dL_refuses_281 : decode cL_refuses 281 = .ok (.iconst 1, 1) := by decide +kernel
theorem dL_refuses_282 : decode cL_refuses 282 = .ok (.iconst 0, 1) := by decide +kernel
theorem dL_refuses_283 : decode cL_refuses 283 = .ok (.invokevirtual 15, 3) := by decide +kernel
theorem dL_refuses_286 : decode cL_refuses 286 = .ok (.ldc 72, 2) := by decide +kernel
theorem dL_refuses_288 : decode cL_refuses 288 = .ok (.if_icmp .ne 110, 3) := by decide +kernel
theorem dL_refuses_291 : decode cL_refuses 291 = .ok (.aload_n 0, 1) := by decide +kernel
theorem dL_refuses_292 : decode cL_refuses 292 = .ok (.iconst 0, 1) := by decide +kernel
theorem dL_refuses_293 : decode cL_refuses 293 = .ok (.bipush 21, 2) := by decide +kernel
theorem dL_refuses_295 : decode cL_refuses 295 = .ok (.iconst 0, 1) := by decide +kernel
theorem dL_refuses_296 : decode cL_refuses 296 = .ok (.invokevirtual 15, 3) := by decide +kernel
theorem dL_refuses_299 : decode cL_refuses 299 = .ok (.ldc 34, 2) := by decide +kernel
theorem dL_refuses_301 : decode cL_refuses 301 = .ok (.if_icmp .ne 97, 3) := by decide +kernel
theorem dL_refuses_304 : decode cL_refuses 304 = .ok (.aload_n 0, 1) := by decide +kernel
theorem dL_refuses_305 : decode cL_refuses 305 = .ok (.iconst 0, 1) := by decide +kernel
theorem dL_refuses_306 : decode cL_refuses 306 = .ok (.iconst 0, 1) := by decide +kernel
theorem dL_refuses_307 : decode cL_refuses 307 = .ok (.bipush 21, 2) := by decide +kernel
theorem dL_refuses_309 : decode cL_refuses 309 = .ok (.invokevirtual 19, 3) := by decide +kernel
theorem dL_refuses_312 : decode cL_refuses 312 = .ok (.ldc 34, 2) := by decide +kernel
theorem dL_refuses_314 : decode cL_refuses 314 = .ok (.if_icmp .ne 84, 3) := by decide +kernel
theorem dL_refuses_317 : decode cL_refuses 317 = .ok (.aload_n 0, 1) := by decide +kernel
theorem dL_refuses_318 : decode cL_refuses 318 = .ok (.iload_n 1, 1) := by decide +kernel
theorem dL_refuses_319 : decode cL_refuses 319 = .ok (.iconst 0, 1) := by decide +kernel
theorem dL_refuses_320 : decode cL_refuses 320 = .ok (.iconst 0, 1) := by decide +kernel
theorem dL_refuses_321 : decode cL_refuses 321 = .ok (.invokevirtual 22, 3) := by decide +kernel
theorem dL_refuses_324 : decode cL_refuses 324 = .ok (.ldc 72, 2) := by decide +kernel
theorem dL_refuses_326 : decode cL_refuses 326 = .ok (.if_icmp .ne 72, 3) := by decide +kernel
theorem dL_refuses_329 : decode cL_refuses 329 = .ok (.aload_n 0, 1) := by decide +kernel
theorem dL_refuses_330 : decode cL_refuses 330 = .ok (.iconst 0, 1) := by decide +kernel
theorem dL_refuses_331 : decode cL_refuses 331 = .ok (.bipush 100, 2) := by decide +kernel
theorem dL_refuses_333 : decode cL_refuses 333 = .ok (.iconst 0, 1) := by decide +kernel
theorem dL_refuses_334 : decode cL_refuses 334 = .ok (.invokevirtual 22, 3) := by decide +kernel
theorem dL_refuses_337 : decode cL_refuses 337 = .ok (.ldc 34, 2) := by decide +kernel
theorem dL_refuses_339 : decode cL_refuses 339 = .ok (.if_icmp .ne 59, 3) := by decide +kernel
theorem dL_refuses_342 : decode cL_refuses 342 = .ok (.aload_n 0, 1) := by decide +kernel
theorem dL_refuses_343 : decode cL_refuses 343 = .ok (.iconst 0, 1) := by decide +kernel
theorem dL_refuses_344 : decode cL_refuses 344 = .ok (.bipush (-101), 2) := by decide +kernel
theorem dL_refuses_346 : decode cL_refuses 346 = .ok (.iconst 0, 1) := by decide +kernel
theorem dL_refuses_347 : decode cL_refuses 347 = .ok (.invokevirtual 92, 3) := by decide +kernel
theorem dL_refuses_350 : decode cL_refuses 350 = .ok (.ldc 72, 2) := by decide +kernel
theorem dL_refuses_352 : decode cL_refuses 352 = .ok (.if_icmp .ne 46, 3) := by decide +kernel
theorem dL_refuses_355 : decode cL_refuses 355 = .ok (.aload_n 0, 1) := by decide +kernel
theorem dL_refuses_356 : decode cL_refuses 356 = .ok (.iconst (-1), 1) := by decide +kernel
theorem dL_refuses_357 : decode cL_refuses 357 = .ok (.invokevirtual 49, 3) := by decide +kernel
theorem dL_refuses_360 : decode cL_refuses 360 = .ok (.ifCond .ne 38, 3) := by decide +kernel
theorem dL_refuses_363 : decode cL_refuses 363 = .ok (.aload_n 0, 1) := by decide +kernel
theorem dL_refuses_364 : decode cL_refuses 364 = .ok (.iload_n 1, 1) := by decide +kernel
theorem dL_refuses_365 : decode cL_refuses 365 = .ok (.iconst 0, 1) := by decide +kernel
theorem dL_refuses_366 : decode cL_refuses 366 = .ok (.invokevirtual 38, 3) := by decide +kernel
theorem dL_refuses_369 : decode cL_refuses 369 = .ok (.ldc 72, 2) := by decide +kernel
theorem dL_refuses_371 : decode cL_refuses 371 = .ok (.if_icmp .ne 27, 3) := by decide +kernel
theorem dL_refuses_374 : decode cL_refuses 374 = .ok (.aload_n 0, 1) := by decide +kernel
theorem dL_refuses_375 : decode cL_refuses 375 = .ok (.iconst (-1), 1) := by decide +kernel
theorem dL_refuses_376 : decode cL_refuses 376 = .ok (.invokevirtual 35, 3) := by decide +kernel
theorem dL_refuses_379 : decode cL_refuses 379 = .ok (.ldc 72, 2) := by decide +kernel
theorem dL_refuses_381 : decode cL_refuses 381 = .ok (.if_icmp .ne 17, 3) := by decide +kernel
theorem dL_refuses_384 : decode cL_refuses 384 = .ok (.aload_n 0, 1) := by decide +kernel
theorem dL_refuses_385 : decode cL_refuses 385 = .ok (.iload_n 1, 1) := by decide +kernel
theorem dL_refuses_386 : decode cL_refuses 386 = .ok (.invokevirtual 25, 3) := by decide +kernel
theorem dL_refuses_389 : decode cL_refuses 389 = .ok (.ldc 72, 2) := by decide +kernel
theorem dL_refuses_391 : decode cL_refuses 391 = .ok (.if_icmp .ne 7, 3) := by decide +kernel
theorem dL_refuses_394 : decode cL_refuses 394 = .ok (.iconst 1, 1) := by decide +kernel
theorem dL_refuses_395 : decode cL_refuses 395 = .ok (.goto 4, 3) := by decide +kernel
theorem dL_refuses_398 : decode cL_refuses 398 = .ok (.iconst 0, 1) := by decide +kernel
theorem dL_refuses_399 : decode cL_refuses 399 = .ok (.istore_n 3, 1) := by decide +kernel
theorem dL_refuses_400 : decode cL_refuses 400 = .ok (.iconst 0, 1) := by decide +kernel
theorem dL_refuses_401 : decode cL_refuses 401 = .ok (.istore 4, 2) := by decide +kernel
theorem dL_refuses_403 : decode cL_refuses 403 = .ok (.iconst 0, 1) := by decide +kernel
theorem dL_refuses_404 : decode cL_refuses 404 = .ok (.istore 5, 2) := by decide +kernel
theorem dL_refuses_406 : decode cL_refuses 406 = .ok (.iload 5, 2) := by decide +kernel
theorem dL_refuses_408 : decode cL_refuses 408 = .ok (.iload_n 1, 1) := by decide +kernel
theorem dL_refuses_409 : decode cL_refuses 409 = .ok (.if_icmp .ge 53, 3) := by decide +kernel
theorem dL_refuses_412 : decode cL_refuses 412 = .ok (.bipush 31, 2) := by decide +kernel
theorem dL_refuses_414 : decode cL_refuses 414 = .ok (.iload 4, 2) := by decide +kernel
theorem dL_refuses_416 : decode cL_refuses 416 = .ok (.imul, 1) := by decide +kernel
theorem dL_refuses_417 : decode cL_refuses 417 = .ok (.aload_n 0, 1) := by decide +kernel
theorem dL_refuses_418 : decode cL_refuses 418 = .ok (.iload 5, 2) := by decide +kernel
theorem dL_refuses_420 : decode cL_refuses 420 = .ok (.invokevirtual 49, 3) := by decide +kernel
theorem dL_refuses_423 : decode cL_refuses 423 = .ok (.iadd, 1) := by decide +kernel
