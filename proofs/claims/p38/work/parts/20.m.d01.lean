theorem dX11_text_290 : decode cX11_text 290 = .ok (.getfield 206, 3) := by decide +kernel
theorem dX11_text_293 : decode cX11_text 293 = .ok (.iconst 5, 1) := by decide +kernel
theorem dX11_text_294 : decode cX11_text 294 = .ok (.iastore, 1) := by decide +kernel
theorem dX11_text_295 : decode cX11_text 295 = .ok (.aload_n 0, 1) := by decide +kernel
theorem dX11_text_296 : decode cX11_text 296 = .ok (.getfield 50, 3) := by decide +kernel
theorem dX11_text_299 : decode cX11_text 299 = .ok (.aload_n 0, 1) := by decide +kernel
theorem dX11_text_300 : decode cX11_text 300 = .ok (.getfield 206, 3) := by decide +kernel
theorem dX11_text_303 : decode cX11_text 303 = .ok (.iaload, 1) := by decide +kernel
theorem dX11_text_304 : decode cX11_text 304 = .ok (.ifCond .ge 13, 3) := by decide +kernel
theorem dX11_text_307 : decode cX11_text 307 = .ok (.aload_n 0, 1) := by decide +kernel
theorem dX11_text_308 : decode cX11_text 308 = .ok (.getfield 50, 3) := by decide +kernel
theorem dX11_text_311 : decode cX11_text 311 = .ok (.aload_n 0, 1) := by decide +kernel
theorem dX11_text_312 : decode cX11_text 312 = .ok (.getfield 206, 3) := by decide +kernel
theorem dX11_text_315 : decode cX11_text 315 = .ok (.iconst 1, 1) := by decide +kernel
theorem dX11_text_316 : decode cX11_text 316 = .ok (.iastore, 1) := by decide +kernel
theorem dX11_text_317 : decode cX11_text 317 = .ok (.aload_n 0, 1) := by decide +kernel
theorem dX11_text_318 : decode cX11_text 318 = .ok (.getfield 53, 3) := by decide +kernel
theorem dX11_text_321 : decode cX11_text 321 = .ok (.aload_n 0, 1) := by decide +kernel
theorem dX11_text_322 : decode cX11_text 322 = .ok (.getfield 206, 3) := by decide +kernel
theorem dX11_text_325 : decode cX11_text 325 = .ok (.iaload, 1) := by decide +kernel
theorem dX11_text_326 : decode cX11_text 326 = .ok (.ifCond .ge 13, 3) := by decide +kernel
theorem dX11_text_329 : decode cX11_text 329 = .ok (.aload_n 0, 1) := by decide +kernel
theorem dX11_text_330 : decode cX11_text 330 = .ok (.getfield 53, 3) := by decide +kernel
theorem dX11_text_333 : decode cX11_text 333 = .ok (.aload_n 0, 1) := by decide +kernel
theorem dX11_text_334 : decode cX11_text 334 = .ok (.getfield 206, 3) := by decide +kernel
theorem dX11_text_337 : decode cX11_text 337 = .ok (.iconst 0, 1) := by decide +kernel
theorem dX11_text_338 : decode cX11_text 338 = .ok (.iastore, 1) := by decide +kernel
theorem dX11_text_339 : decode cX11_text 339 = .ok (.aload_n 0, 1) := by decide +kernel
theorem dX11_text_340 : decode cX11_text 340 = .ok (.getfield 20, 3) := by decide +kernel
theorem dX11_text_343 : decode cX11_text 343 = .ok (.iload_n 1, 1) := by decide +kernel
theorem dX11_text_344 : decode cX11_text 344 = .ok (.dup2, 1) := by decide +kernel
theorem dX11_text_345 : decode cX11_text 345 = .ok (.iaload, 1) := by decide +kernel
theorem dX11_text_346 : decode cX11_text 346 = .ok (.iconst 1, 1) := by decide +kernel
theorem dX11_text_347 : decode cX11_text 347 = .ok (.iadd, 1) := by decide +kernel
theorem dX11_text_348 : decode cX11_text 348 = .ok (.iastore, 1) := by decide +kernel
theorem dX11_text_349 : decode cX11_text 349 = .ok (.aload_n 0, 1) := by decide +kernel
theorem dX11_text_350 : decode cX11_text 350 = .ok (.getfield 20, 3) := by decide +kernel
theorem dX11_text_353 : decode cX11_text 353 = .ok (.iload_n 1, 1) := by decide +kernel
theorem dX11_text_354 : decode cX11_text 354 = .ok (.iaload, 1) := by decide +kernel
theorem dX11_text_355 : decode cX11_text 355 = .ok (.iconst 1, 1) := by decide +kernel
theorem dX11_text_356 : decode cX11_text 356 = .ok (.isub, 1) := by decide +kernel
theorem dX11_text_357 : decode cX11_text 357 = .ok (.ireturn, 1) := by decide +kernel
