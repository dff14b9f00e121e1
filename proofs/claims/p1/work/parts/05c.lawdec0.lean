theorem ydb_0_0 : (decode cL_law 0 = .ok (.new 8, 3)) ∧ (decode cL_law 3 = .ok (.dup, 1)) ∧ (decode cL_law 4 = .ok (.invokespecial 155, 3)) ∧ (decode cL_law 7 = .ok (.astore_n 1, 1)) ∧ (decode cL_law 8 = .ok (.new 156, 3)) ∧ (decode cL_law 11 = .ok (.dup, 1)) ∧ (decode cL_law 12 = .ok (.invokespecial 158, 3)) ∧ (decode cL_law 15 = .ok (.astore_n 2, 1)) ∧ (decode cL_law 16 = .ok (.iconst 1, 1)) ∧ (decode cL_law 17 = .ok (.newarray .long, 2)) ∧ (decode cL_law 19 = .ok (.astore_n 3, 1)) ∧ (decode cL_law 20 = .ok (.iconst 1, 1)) := by decide +kernel
theorem dL_law_0 : decode cL_law 0 = .ok (.new 8, 3) := ydb_0_0.1
theorem dL_law_3 : decode cL_law 3 = .ok (.dup, 1) := ydb_0_0.2.1
theorem dL_law_4 : decode cL_law 4 = .ok (.invokespecial 155, 3) := ydb_0_0.2.2.1
theorem dL_law_7 : decode cL_law 7 = .ok (.astore_n 1, 1) := ydb_0_0.2.2.2.1
theorem dL_law_8 : decode cL_law 8 = .ok (.new 156, 3) := ydb_0_0.2.2.2.2.1
theorem dL_law_11 : decode cL_law 11 = .ok (.dup, 1) := ydb_0_0.2.2.2.2.2.1
theorem dL_law_12 : decode cL_law 12 = .ok (.invokespecial 158, 3) := ydb_0_0.2.2.2.2.2.2.1
theorem dL_law_15 : decode cL_law 15 = .ok (.astore_n 2, 1) := ydb_0_0.2.2.2.2.2.2.2.1
theorem dL_law_16 : decode cL_law 16 = .ok (.iconst 1, 1) := ydb_0_0.2.2.2.2.2.2.2.2.1
theorem dL_law_17 : decode cL_law 17 = .ok (.newarray .long, 2) := ydb_0_0.2.2.2.2.2.2.2.2.2.1
theorem dL_law_19 : decode cL_law 19 = .ok (.astore_n 3, 1) := ydb_0_0.2.2.2.2.2.2.2.2.2.2.1
theorem dL_law_20 : decode cL_law 20 = .ok (.iconst 1, 1) := ydb_0_0.2.2.2.2.2.2.2.2.2.2.2
theorem ydb_0_12 : (decode cL_law 21 = .ok (.newarray .double, 2)) ∧ (decode cL_law 23 = .ok (.astore 4, 2)) ∧ (decode cL_law 25 = .ok (.iconst 0, 1)) ∧ (decode cL_law 26 = .ok (.istore 5, 2)) ∧ (decode cL_law 28 = .ok (.iload 5, 2)) ∧ (decode cL_law 30 = .ok (.aload_n 0, 1)) ∧ (decode cL_law 31 = .ok (.arraylength, 1)) ∧ (decode cL_law 32 = .ok (.iconst 5, 1)) ∧ (decode cL_law 33 = .ok (.isub, 1)) ∧ (decode cL_law 34 = .ok (.if_icmp .gt 3109, 3)) ∧ (decode cL_law 37 = .ok (.aload_n 0, 1)) ∧ (decode cL_law 38 = .ok (.iload 5, 2)) := by decide +kernel
theorem dL_law_21 : decode cL_law 21 = .ok (.newarray .double, 2) := ydb_0_12.1
theorem dL_law_23 : decode cL_law 23 = .ok (.astore 4, 2) := ydb_0_12.2.1
theorem dL_law_25 : decode cL_law 25 = .ok (.iconst 0, 1) := ydb_0_12.2.2.1
theorem dL_law_26 : decode cL_law 26 = .ok (.istore 5, 2) := ydb_0_12.2.2.2.1
theorem dL_law_28 : decode cL_law 28 = .ok (.iload 5, 2) := ydb_0_12.2.2.2.2.1
theorem dL_law_30 : decode cL_law 30 = .ok (.aload_n 0, 1) := ydb_0_12.2.2.2.2.2.1
theorem dL_law_31 : decode cL_law 31 = .ok (.arraylength, 1) := ydb_0_12.2.2.2.2.2.2.1
theorem dL_law_32 : decode cL_law 32 = .ok (.iconst 5, 1) := ydb_0_12.2.2.2.2.2.2.2.1
theorem dL_law_33 : decode cL_law 33 = .ok (.isub, 1) := ydb_0_12.2.2.2.2.2.2.2.2.1
theorem dL_law_34 : decode cL_law 34 = .ok (.if_icmp .gt 3109, 3) := ydb_0_12.2.2.2.2.2.2.2.2.2.1
theorem dL_law_37 : decode cL_law 37 = .ok (.aload_n 0, 1) := ydb_0_12.2.2.2.2.2.2.2.2.2.2.1
theorem dL_law_38 : decode cL_law 38 = .ok (.iload 5, 2) := ydb_0_12.2.2.2.2.2.2.2.2.2.2.2
theorem ydb_0_24 : (decode cL_law 40 = .ok (.iaload, 1)) ∧ (decode cL_law 41 = .ok (.bipush 63, 2)) ∧ (decode cL_law 43 = .ok (.iand, 1)) ∧ (decode cL_law 44 = .ok (.tableswitch 3093 0 47 #[208, 276, 332, 412, 480, 493, 561, 605, 687, 769, 851, 945, 1025, 1095, 1175, 1267, 1280, 1367, 1442, 1498, 1587, 1645, 1658, 1726, 1739, 1795, 1808, 1864, 1920, 1976, 2032, 2124, 2168, 2255, 2311, 2324, 2411, 2467, 2535, 2603, 2685, 2755, 2811, 2879, 2935, 3001, 3066, 3080], 208)) ∧ (decode cL_law 252 = .ok (.aload_n 1, 1)) ∧ (decode cL_law 253 = .ok (.aload_n 0, 1)) ∧ (decode cL_law 254 = .ok (.iload 5, 2)) ∧ (decode cL_law 256 = .ok (.iconst 1, 1)) ∧ (decode cL_law 257 = .ok (.iadd, 1)) ∧ (decode cL_law 258 = .ok (.iaload, 1)) ∧ (decode cL_law 259 = .ok (.aload_n 0, 1)) ∧ (decode cL_law 260 = .ok (.iload 5, 2)) := by decide +kernel
theorem dL_law_40 : decode cL_law 40 = .ok (.iaload, 1) := ydb_0_24.1
theorem dL_law_41 : decode cL_law 41 = .ok (.bipush 63, 2) := ydb_0_24.2.1
theorem dL_law_43 : decode cL_law 43 = .ok (.iand, 1) := ydb_0_24.2.2.1
theorem dL_law_44 : decode cL_law 44 = .ok (.tableswitch 3093 0 47 #[208, 276, 332, 412, 480, 493, 561, 605, 687, 769, 851, 945, 1025, 1095, 1175, 1267, 1280, 1367, 1442, 1498, 1587, 1645, 1658, 1726, 1739, 1795, 1808, 1864, 1920, 1976, 2032, 2124, 2168, 2255, 2311, 2324, 2411, 2467, 2535, 2603, 2685, 2755, 2811, 2879, 2935, 3001, 3066, 3080], 208) := ydb_0_24.2.2.2.1
theorem dL_law_252 : decode cL_law 252 = .ok (.aload_n 1, 1) := ydb_0_24.2.2.2.2.1
theorem dL_law_253 : decode cL_law 253 = .ok (.aload_n 0, 1) := ydb_0_24.2.2.2.2.2.1
theorem dL_law_254 : decode cL_law 254 = .ok (.iload 5, 2) := ydb_0_24.2.2.2.2.2.2.1
theorem dL_law_256 : decode cL_law 256 = .ok (.iconst 1, 1) := ydb_0_24.2.2.2.2.2.2.2.1
theorem dL_law_257 : decode cL_law 257 = .ok (.iadd, 1) := ydb_0_24.2.2.2.2.2.2.2.2.1
theorem dL_law_258 : decode cL_law 258 = .ok (.iaload, 1) := ydb_0_24.2.2.2.2.2.2.2.2.2.1
theorem dL_law_259 : decode cL_law 259 = .ok (.aload_n 0, 1) := ydb_0_24.2.2.2.2.2.2.2.2.2.2.1
theorem dL_law_260 : decode cL_law 260 = .ok (.iload 5, 2) := ydb_0_24.2.2.2.2.2.2.2.2.2.2.2
theorem ydb_0_36 : (decode cL_law 262 = .ok (.iconst 2, 1)) ∧ (decode cL_law 263 = .ok (.iadd, 1)) ∧ (decode cL_law 264 = .ok (.iaload, 1)) ∧ (decode cL_law 265 = .ok (.aload_n 3, 1)) ∧ (decode cL_law 266 = .ok (.invokestatic 159, 3)) ∧ (decode cL_law 269 = .ok (.istore 6, 2)) ∧ (decode cL_law 271 = .ok (.aload_n 2, 1)) ∧ (decode cL_law 272 = .ok (.aload_n 0, 1)) ∧ (decode cL_law 273 = .ok (.iload 5, 2)) ∧ (decode cL_law 275 = .ok (.iconst 1, 1)) ∧ (decode cL_law 276 = .ok (.iadd, 1)) ∧ (decode cL_law 277 = .ok (.iaload, 1)) := by decide +kernel
theorem dL_law_262 : decode cL_law 262 = .ok (.iconst 2, 1) := ydb_0_36.1
theorem dL_law_263 : decode cL_law 263 = .ok (.iadd, 1) := ydb_0_36.2.1
theorem dL_law_264 : decode cL_law 264 = .ok (.iaload, 1) := ydb_0_36.2.2.1
theorem dL_law_265 : decode cL_law 265 = .ok (.aload_n 3, 1) := ydb_0_36.2.2.2.1
theorem dL_law_266 : decode cL_law 266 = .ok (.invokestatic 159, 3) := ydb_0_36.2.2.2.2.1
theorem dL_law_269 : decode cL_law 269 = .ok (.istore 6, 2) := ydb_0_36.2.2.2.2.2.1
theorem dL_law_271 : decode cL_law 271 = .ok (.aload_n 2, 1) := ydb_0_36.2.2.2.2.2.2.1
theorem dL_law_272 : decode cL_law 272 = .ok (.aload_n 0, 1) := ydb_0_36.2.2.2.2.2.2.2.1
theorem dL_law_273 : decode cL_law 273 = .ok (.iload 5, 2) := ydb_0_36.2.2.2.2.2.2.2.2.1
theorem dL_law_275 : decode cL_law 275 = .ok (.iconst 1, 1) := ydb_0_36.2.2.2.2.2.2.2.2.2.1
theorem dL_law_276 : decode cL_law 276 = .ok (.iadd, 1) := ydb_0_36.2.2.2.2.2.2.2.2.2.2.1
theorem dL_law_277 : decode cL_law 277 = .ok (.iaload, 1) := ydb_0_36.2.2.2.2.2.2.2.2.2.2.2
theorem ydb_0_48 : (decode cL_law 278 = .ok (.aload_n 0, 1)) ∧ (decode cL_law 279 = .ok (.iload 5, 2)) ∧ (decode cL_law 281 = .ok (.iconst 2, 1)) ∧ (decode cL_law 282 = .ok (.iadd, 1)) ∧ (decode cL_law 283 = .ok (.iaload, 1)) ∧ (decode cL_law 284 = .ok (.invokevirtual 164, 3)) ∧ (decode cL_law 287 = .ok (.istore 7, 2)) ∧ (decode cL_law 289 = .ok (.aload_n 2, 1)) ∧ (decode cL_law 290 = .ok (.invokevirtual 165, 3)) ∧ (decode cL_law 293 = .ok (.iload 6, 2)) ∧ (decode cL_law 295 = .ok (.if_icmp .eq 5, 3)) ∧ (decode cL_law 300 = .ok (.iload 6, 2)) := by decide +kernel
theorem dL_law_278 : decode cL_law 278 = .ok (.aload_n 0, 1) := ydb_0_48.1
theorem dL_law_279 : decode cL_law 279 = .ok (.iload 5, 2) := ydb_0_48.2.1
theorem dL_law_281 : decode cL_law 281 = .ok (.iconst 2, 1) := ydb_0_48.2.2.1
theorem dL_law_282 : decode cL_law 282 = .ok (.iadd, 1) := ydb_0_48.2.2.2.1
theorem dL_law_283 : decode cL_law 283 = .ok (.iaload, 1) := ydb_0_48.2.2.2.2.1
theorem dL_law_284 : decode cL_law 284 = .ok (.invokevirtual 164, 3) := ydb_0_48.2.2.2.2.2.1
theorem dL_law_287 : decode cL_law 287 = .ok (.istore 7, 2) := ydb_0_48.2.2.2.2.2.2.1
theorem dL_law_289 : decode cL_law 289 = .ok (.aload_n 2, 1) := ydb_0_48.2.2.2.2.2.2.2.1
theorem dL_law_290 : decode cL_law 290 = .ok (.invokevirtual 165, 3) := ydb_0_48.2.2.2.2.2.2.2.2.1
theorem dL_law_293 : decode cL_law 293 = .ok (.iload 6, 2) := ydb_0_48.2.2.2.2.2.2.2.2.2.1
theorem dL_law_295 : decode cL_law 295 = .ok (.if_icmp .eq 5, 3) := ydb_0_48.2.2.2.2.2.2.2.2.2.2.1
theorem dL_law_300 : decode cL_law 300 = .ok (.iload 6, 2) := ydb_0_48.2.2.2.2.2.2.2.2.2.2.2
theorem ydb_0_60 : (decode cL_law 302 = .ok (.ifCond .ne 15, 3)) ∧ (decode cL_law 305 = .ok (.aload_n 3, 1)) ∧ (decode cL_law 306 = .ok (.iconst 0, 1)) ∧ (decode cL_law 307 = .ok (.laload, 1)) ∧ (decode cL_law 308 = .ok (.iload 7, 2)) ∧ (decode cL_law 310 = .ok (.i2l, 1)) ∧ (decode cL_law 311 = .ok (.lcmp, 1)) ∧ (decode cL_law 312 = .ok (.ifCond .eq 5, 3)) ∧ (decode cL_law 317 = .ok (.goto 2820, 3)) ∧ (decode cL_law 320 = .ok (.aload_n 1, 1)) ∧ (decode cL_law 321 = .ok (.aload_n 0, 1)) ∧ (decode cL_law 322 = .ok (.iload 5, 2)) := by decide +kernel
theorem dL_law_302 : decode cL_law 302 = .ok (.ifCond .ne 15, 3) := ydb_0_60.1
theorem dL_law_305 : decode cL_law 305 = .ok (.aload_n 3, 1) := ydb_0_60.2.1
theorem dL_law_306 : decode cL_law 306 = .ok (.iconst 0, 1) := ydb_0_60.2.2.1
theorem dL_law_307 : decode cL_law 307 = .ok (.laload, 1) := ydb_0_60.2.2.2.1
theorem dL_law_308 : decode cL_law 308 = .ok (.iload 7, 2) := ydb_0_60.2.2.2.2.1
theorem dL_law_310 : decode cL_law 310 = .ok (.i2l, 1) := ydb_0_60.2.2.2.2.2.1
theorem dL_law_311 : decode cL_law 311 = .ok (.lcmp, 1) := ydb_0_60.2.2.2.2.2.2.1
theorem dL_law_312 : decode cL_law 312 = .ok (.ifCond .eq 5, 3) := ydb_0_60.2.2.2.2.2.2.2.1
theorem dL_law_317 : decode cL_law 317 = .ok (.goto 2820, 3) := ydb_0_60.2.2.2.2.2.2.2.2.1
theorem dL_law_320 : decode cL_law 320 = .ok (.aload_n 1, 1) := ydb_0_60.2.2.2.2.2.2.2.2.2.1
theorem dL_law_321 : decode cL_law 321 = .ok (.aload_n 0, 1) := ydb_0_60.2.2.2.2.2.2.2.2.2.2.1
theorem dL_law_322 : decode cL_law 322 = .ok (.iload 5, 2) := ydb_0_60.2.2.2.2.2.2.2.2.2.2.2
theorem ydb_0_72 : (decode cL_law 324 = .ok (.iconst 1, 1)) ∧ (decode cL_law 325 = .ok (.iadd, 1)) ∧ (decode cL_law 326 = .ok (.iaload, 1)) ∧ (decode cL_law 327 = .ok (.aload_n 3, 1)) ∧ (decode cL_law 328 = .ok (.invokestatic 168, 3)) ∧ (decode cL_law 331 = .ok (.istore 6, 2)) ∧ (decode cL_law 333 = .ok (.aload_n 2, 1)) ∧ (decode cL_law 334 = .ok (.aload_n 0, 1)) ∧ (decode cL_law 335 = .ok (.iload 5, 2)) ∧ (decode cL_law 337 = .ok (.iconst 1, 1)) ∧ (decode cL_law 338 = .ok (.iadd, 1)) ∧ (decode cL_law 339 = .ok (.iaload, 1)) := by decide +kernel
theorem dL_law_324 : decode cL_law 324 = .ok (.iconst 1, 1) := ydb_0_72.1
theorem dL_law_325 : decode cL_law 325 = .ok (.iadd, 1) := ydb_0_72.2.1
theorem dL_law_326 : decode cL_law 326 = .ok (.iaload, 1) := ydb_0_72.2.2.1
theorem dL_law_327 : decode cL_law 327 = .ok (.aload_n 3, 1) := ydb_0_72.2.2.2.1
theorem dL_law_328 : decode cL_law 328 = .ok (.invokestatic 168, 3) := ydb_0_72.2.2.2.2.1
theorem dL_law_331 : decode cL_law 331 = .ok (.istore 6, 2) := ydb_0_72.2.2.2.2.2.1
theorem dL_law_333 : decode cL_law 333 = .ok (.aload_n 2, 1) := ydb_0_72.2.2.2.2.2.2.1
theorem dL_law_334 : decode cL_law 334 = .ok (.aload_n 0, 1) := ydb_0_72.2.2.2.2.2.2.2.1
theorem dL_law_335 : decode cL_law 335 = .ok (.iload 5, 2) := ydb_0_72.2.2.2.2.2.2.2.2.1
theorem dL_law_337 : decode cL_law 337 = .ok (.iconst 1, 1) := ydb_0_72.2.2.2.2.2.2.2.2.2.1
theorem dL_law_338 : decode cL_law 338 = .ok (.iadd, 1) := ydb_0_72.2.2.2.2.2.2.2.2.2.2.1
theorem dL_law_339 : decode cL_law 339 = .ok (.iaload, 1) := ydb_0_72.2.2.2.2.2.2.2.2.2.2.2
theorem ydb_0_84 : (decode cL_law 340 = .ok (.invokevirtual 171, 3)) ∧ (decode cL_law 343 = .ok (.istore 7, 2)) ∧ (decode cL_law 345 = .ok (.aload_n 2, 1)) ∧ (decode cL_law 346 = .ok (.invokevirtual 165, 3)) ∧ (decode cL_law 349 = .ok (.iload 6, 2)) ∧ (decode cL_law 351 = .ok (.if_icmp .eq 5, 3)) ∧ (decode cL_law 356 = .ok (.iload 6, 2)) ∧ (decode cL_law 358 = .ok (.ifCond .ne 15, 3)) ∧ (decode cL_law 373 = .ok (.goto 2764, 3)) ∧ (decode cL_law 376 = .ok (.aload_n 1, 1)) ∧ (decode cL_law 377 = .ok (.aload_n 0, 1)) ∧ (decode cL_law 378 = .ok (.iload 5, 2)) := by decide +kernel
theorem dL_law_340 : decode cL_law 340 = .ok (.invokevirtual 171, 3) := ydb_0_84.1
theorem dL_law_343 : decode cL_law 343 = .ok (.istore 7, 2) := ydb_0_84.2.1
theorem dL_law_345 : decode cL_law 345 = .ok (.aload_n 2, 1) := ydb_0_84.2.2.1
theorem dL_law_346 : decode cL_law 346 = .ok (.invokevirtual 165, 3) := ydb_0_84.2.2.2.1
theorem dL_law_349 : decode cL_law 349 = .ok (.iload 6, 2) := ydb_0_84.2.2.2.2.1
theorem dL_law_351 : decode cL_law 351 = .ok (.if_icmp .eq 5, 3) := ydb_0_84.2.2.2.2.2.1
theorem dL_law_356 : decode cL_law 356 = .ok (.iload 6, 2) := ydb_0_84.2.2.2.2.2.2.1
theorem dL_law_358 : decode cL_law 358 = .ok (.ifCond .ne 15, 3) := ydb_0_84.2.2.2.2.2.2.2.1
theorem dL_law_373 : decode cL_law 373 = .ok (.goto 2764, 3) := ydb_0_84.2.2.2.2.2.2.2.2.1
theorem dL_law_376 : decode cL_law 376 = .ok (.aload_n 1, 1) := ydb_0_84.2.2.2.2.2.2.2.2.2.1
theorem dL_law_377 : decode cL_law 377 = .ok (.aload_n 0, 1) := ydb_0_84.2.2.2.2.2.2.2.2.2.2.1
theorem dL_law_378 : decode cL_law 378 = .ok (.iload 5, 2) := ydb_0_84.2.2.2.2.2.2.2.2.2.2.2
theorem ydb_0_96 : (decode cL_law 380 = .ok (.iconst 1, 1)) ∧ (decode cL_law 381 = .ok (.iadd, 1)) ∧ (decode cL_law 382 = .ok (.iaload, 1)) ∧ (decode cL_law 383 = .ok (.aload_n 0, 1)) ∧ (decode cL_law 384 = .ok (.iload 5, 2)) ∧ (decode cL_law 386 = .ok (.iconst 2, 1)) ∧ (decode cL_law 387 = .ok (.iadd, 1)) ∧ (decode cL_law 388 = .ok (.iaload, 1)) ∧ (decode cL_law 389 = .ok (.aload_n 0, 1)) ∧ (decode cL_law 390 = .ok (.iload 5, 2)) ∧ (decode cL_law 392 = .ok (.iconst 3, 1)) ∧ (decode cL_law 393 = .ok (.iadd, 1)) := by decide +kernel
theorem dL_law_380 : decode cL_law 380 = .ok (.iconst 1, 1) := ydb_0_96.1
theorem dL_law_381 : decode cL_law 381 = .ok (.iadd, 1) := ydb_0_96.2.1
theorem dL_law_382 : decode cL_law 382 = .ok (.iaload, 1) := ydb_0_96.2.2.1
theorem dL_law_383 : decode cL_law 383 = .ok (.aload_n 0, 1) := ydb_0_96.2.2.2.1
theorem dL_law_384 : decode cL_law 384 = .ok (.iload 5, 2) := ydb_0_96.2.2.2.2.1
theorem dL_law_386 : decode cL_law 386 = .ok (.iconst 2, 1) := ydb_0_96.2.2.2.2.2.1
theorem dL_law_387 : decode cL_law 387 = .ok (.iadd, 1) := ydb_0_96.2.2.2.2.2.2.1
theorem dL_law_388 : decode cL_law 388 = .ok (.iaload, 1) := ydb_0_96.2.2.2.2.2.2.2.1
theorem dL_law_389 : decode cL_law 389 = .ok (.aload_n 0, 1) := ydb_0_96.2.2.2.2.2.2.2.2.1
theorem dL_law_390 : decode cL_law 390 = .ok (.iload 5, 2) := ydb_0_96.2.2.2.2.2.2.2.2.2.1
theorem dL_law_392 : decode cL_law 392 = .ok (.iconst 3, 1) := ydb_0_96.2.2.2.2.2.2.2.2.2.2.1
theorem dL_law_393 : decode cL_law 393 = .ok (.iadd, 1) := ydb_0_96.2.2.2.2.2.2.2.2.2.2.2
theorem ydb_0_108 : (decode cL_law 394 = .ok (.iaload, 1)) ∧ (decode cL_law 395 = .ok (.aload_n 3, 1)) ∧ (decode cL_law 396 = .ok (.invokestatic 172, 3)) ∧ (decode cL_law 399 = .ok (.istore 6, 2)) ∧ (decode cL_law 401 = .ok (.aload_n 2, 1)) ∧ (decode cL_law 402 = .ok (.aload_n 0, 1)) ∧ (decode cL_law 403 = .ok (.iload 5, 2)) ∧ (decode cL_law 405 = .ok (.iconst 1, 1)) ∧ (decode cL_law 406 = .ok (.iadd, 1)) ∧ (decode cL_law 407 = .ok (.iaload, 1)) ∧ (decode cL_law 408 = .ok (.aload_n 0, 1)) ∧ (decode cL_law 409 = .ok (.iload 5, 2)) := by decide +kernel
theorem dL_law_394 : decode cL_law 394 = .ok (.iaload, 1) := ydb_0_108.1
theorem dL_law_395 : decode cL_law 395 = .ok (.aload_n 3, 1) := ydb_0_108.2.1
theorem dL_law_396 : decode cL_law 396 = .ok (.invokestatic 172, 3) := ydb_0_108.2.2.1
theorem dL_law_399 : decode cL_law 399 = .ok (.istore 6, 2) := ydb_0_108.2.2.2.1
theorem dL_law_401 : decode cL_law 401 = .ok (.aload_n 2, 1) := ydb_0_108.2.2.2.2.1
theorem dL_law_402 : decode cL_law 402 = .ok (.aload_n 0, 1) := ydb_0_108.2.2.2.2.2.1
theorem dL_law_403 : decode cL_law 403 = .ok (.iload 5, 2) := ydb_0_108.2.2.2.2.2.2.1
theorem dL_law_405 : decode cL_law 405 = .ok (.iconst 1, 1) := ydb_0_108.2.2.2.2.2.2.2.1
theorem dL_law_406 : decode cL_law 406 = .ok (.iadd, 1) := ydb_0_108.2.2.2.2.2.2.2.2.1
theorem dL_law_407 : decode cL_law 407 = .ok (.iaload, 1) := ydb_0_108.2.2.2.2.2.2.2.2.2.1
theorem dL_law_408 : decode cL_law 408 = .ok (.aload_n 0, 1) := ydb_0_108.2.2.2.2.2.2.2.2.2.2.1
theorem dL_law_409 : decode cL_law 409 = .ok (.iload 5, 2) := ydb_0_108.2.2.2.2.2.2.2.2.2.2.2
theorem ydb_0_120 : (decode cL_law 411 = .ok (.iconst 2, 1)) ∧ (decode cL_law 412 = .ok (.iadd, 1)) ∧ (decode cL_law 413 = .ok (.iaload, 1)) ∧ (decode cL_law 414 = .ok (.aload_n 0, 1)) ∧ (decode cL_law 415 = .ok (.iload 5, 2)) ∧ (decode cL_law 417 = .ok (.iconst 3, 1)) ∧ (decode cL_law 418 = .ok (.iadd, 1)) ∧ (decode cL_law 419 = .ok (.iaload, 1)) ∧ (decode cL_law 420 = .ok (.invokevirtual 175, 3)) ∧ (decode cL_law 423 = .ok (.istore 7, 2)) ∧ (decode cL_law 425 = .ok (.aload_n 2, 1)) ∧ (decode cL_law 426 = .ok (.invokevirtual 165, 3)) := by decide +kernel
theorem dL_law_411 : decode cL_law 411 = .ok (.iconst 2, 1) := ydb_0_120.1
theorem dL_law_412 : decode cL_law 412 = .ok (.iadd, 1) := ydb_0_120.2.1
theorem dL_law_413 : decode cL_law 413 = .ok (.iaload, 1) := ydb_0_120.2.2.1
theorem dL_law_414 : decode cL_law 414 = .ok (.aload_n 0, 1) := ydb_0_120.2.2.2.1
theorem dL_law_415 : decode cL_law 415 = .ok (.iload 5, 2) := ydb_0_120.2.2.2.2.1
theorem dL_law_417 : decode cL_law 417 = .ok (.iconst 3, 1) := ydb_0_120.2.2.2.2.2.1
theorem dL_law_418 : decode cL_law 418 = .ok (.iadd, 1) := ydb_0_120.2.2.2.2.2.2.1
theorem dL_law_419 : decode cL_law 419 = .ok (.iaload, 1) := ydb_0_120.2.2.2.2.2.2.2.1
theorem dL_law_420 : decode cL_law 420 = .ok (.invokevirtual 175, 3) := ydb_0_120.2.2.2.2.2.2.2.2.1
theorem dL_law_423 : decode cL_law 423 = .ok (.istore 7, 2) := ydb_0_120.2.2.2.2.2.2.2.2.2.1
theorem dL_law_425 : decode cL_law 425 = .ok (.aload_n 2, 1) := ydb_0_120.2.2.2.2.2.2.2.2.2.2.1
theorem dL_law_426 : decode cL_law 426 = .ok (.invokevirtual 165, 3) := ydb_0_120.2.2.2.2.2.2.2.2.2.2.2
theorem ydb_0_132 : (decode cL_law 429 = .ok (.iload 6, 2)) ∧ (decode cL_law 431 = .ok (.if_icmp .eq 5, 3)) ∧ (decode cL_law 436 = .ok (.iload 6, 2)) ∧ (decode cL_law 438 = .ok (.ifCond .ne 15, 3)) ∧ (decode cL_law 453 = .ok (.goto 2684, 3)) ∧ (decode cL_law 456 = .ok (.aload_n 1, 1)) ∧ (decode cL_law 457 = .ok (.aload_n 0, 1)) ∧ (decode cL_law 458 = .ok (.iload 5, 2)) ∧ (decode cL_law 460 = .ok (.iconst 1, 1)) ∧ (decode cL_law 461 = .ok (.iadd, 1)) ∧ (decode cL_law 462 = .ok (.iaload, 1)) ∧ (decode cL_law 463 = .ok (.aload_n 0, 1)) := by decide +kernel
theorem dL_law_429 : decode cL_law 429 = .ok (.iload 6, 2) := ydb_0_132.1
theorem dL_law_431 : decode cL_law 431 = .ok (.if_icmp .eq 5, 3) := ydb_0_132.2.1
theorem dL_law_436 : decode cL_law 436 = .ok (.iload 6, 2) := ydb_0_132.2.2.1
theorem dL_law_438 : decode cL_law 438 = .ok (.ifCond .ne 15, 3) := ydb_0_132.2.2.2.1
theorem dL_law_453 : decode cL_law 453 = .ok (.goto 2684, 3) := ydb_0_132.2.2.2.2.1
theorem dL_law_456 : decode cL_law 456 = .ok (.aload_n 1, 1) := ydb_0_132.2.2.2.2.2.1
theorem dL_law_457 : decode cL_law 457 = .ok (.aload_n 0, 1) := ydb_0_132.2.2.2.2.2.2.1
theorem dL_law_458 : decode cL_law 458 = .ok (.iload 5, 2) := ydb_0_132.2.2.2.2.2.2.2.1
theorem dL_law_460 : decode cL_law 460 = .ok (.iconst 1, 1) := ydb_0_132.2.2.2.2.2.2.2.2.1
theorem dL_law_461 : decode cL_law 461 = .ok (.iadd, 1) := ydb_0_132.2.2.2.2.2.2.2.2.2.1
theorem dL_law_462 : decode cL_law 462 = .ok (.iaload, 1) := ydb_0_132.2.2.2.2.2.2.2.2.2.2.1
theorem dL_law_463 : decode cL_law 463 = .ok (.aload_n 0, 1) := ydb_0_132.2.2.2.2.2.2.2.2.2.2.2
theorem ydb_0_144 : (decode cL_law 464 = .ok (.iload 5, 2)) ∧ (decode cL_law 466 = .ok (.iconst 2, 1)) ∧ (decode cL_law 467 = .ok (.iadd, 1)) ∧ (decode cL_law 468 = .ok (.iaload, 1)) ∧ (decode cL_law 469 = .ok (.aload_n 3, 1)) ∧ (decode cL_law 470 = .ok (.invokestatic 176, 3)) ∧ (decode cL_law 473 = .ok (.istore 6, 2)) ∧ (decode cL_law 475 = .ok (.aload_n 2, 1)) ∧ (decode cL_law 476 = .ok (.aload_n 0, 1)) ∧ (decode cL_law 477 = .ok (.iload 5, 2)) ∧ (decode cL_law 479 = .ok (.iconst 1, 1)) ∧ (decode cL_law 480 = .ok (.iadd, 1)) := by decide +kernel
theorem dL_law_464 : decode cL_law 464 = .ok (.iload 5, 2) := ydb_0_144.1
theorem dL_law_466 : decode cL_law 466 = .ok (.iconst 2, 1) := ydb_0_144.2.1
theorem dL_law_467 : decode cL_law 467 = .ok (.iadd, 1) := ydb_0_144.2.2.1
theorem dL_law_468 : decode cL_law 468 = .ok (.iaload, 1) := ydb_0_144.2.2.2.1
theorem dL_law_469 : decode cL_law 469 = .ok (.aload_n 3, 1) := ydb_0_144.2.2.2.2.1
theorem dL_law_470 : decode cL_law 470 = .ok (.invokestatic 176, 3) := ydb_0_144.2.2.2.2.2.1
theorem dL_law_473 : decode cL_law 473 = .ok (.istore 6, 2) := ydb_0_144.2.2.2.2.2.2.1
theorem dL_law_475 : decode cL_law 475 = .ok (.aload_n 2, 1) := ydb_0_144.2.2.2.2.2.2.2.1
theorem dL_law_476 : decode cL_law 476 = .ok (.aload_n 0, 1) := ydb_0_144.2.2.2.2.2.2.2.2.1
theorem dL_law_477 : decode cL_law 477 = .ok (.iload 5, 2) := ydb_0_144.2.2.2.2.2.2.2.2.2.1
theorem dL_law_479 : decode cL_law 479 = .ok (.iconst 1, 1) := ydb_0_144.2.2.2.2.2.2.2.2.2.2.1
theorem dL_law_480 : decode cL_law 480 = .ok (.iadd, 1) := ydb_0_144.2.2.2.2.2.2.2.2.2.2.2
theorem ydb_0_156 : (decode cL_law 481 = .ok (.iaload, 1)) ∧ (decode cL_law 482 = .ok (.aload_n 0, 1)) ∧ (decode cL_law 483 = .ok (.iload 5, 2)) ∧ (decode cL_law 485 = .ok (.iconst 2, 1)) ∧ (decode cL_law 486 = .ok (.iadd, 1)) ∧ (decode cL_law 487 = .ok (.iaload, 1)) ∧ (decode cL_law 488 = .ok (.invokevirtual 178, 3)) ∧ (decode cL_law 491 = .ok (.istore 7, 2)) ∧ (decode cL_law 493 = .ok (.aload_n 2, 1)) ∧ (decode cL_law 494 = .ok (.invokevirtual 165, 3)) ∧ (decode cL_law 497 = .ok (.iload 6, 2)) ∧ (decode cL_law 499 = .ok (.if_icmp .eq 5, 3)) := by decide +kernel
theorem dL_law_481 : decode cL_law 481 = .ok (.iaload, 1) := ydb_0_156.1
theorem dL_law_482 : decode cL_law 482 = .ok (.aload_n 0, 1) := ydb_0_156.2.1
theorem dL_law_483 : decode cL_law 483 = .ok (.iload 5, 2) := ydb_0_156.2.2.1
theorem dL_law_485 : decode cL_law 485 = .ok (.iconst 2, 1) := ydb_0_156.2.2.2.1
theorem dL_law_486 : decode cL_law 486 = .ok (.iadd, 1) := ydb_0_156.2.2.2.2.1
theorem dL_law_487 : decode cL_law 487 = .ok (.iaload, 1) := ydb_0_156.2.2.2.2.2.1
theorem dL_law_488 : decode cL_law 488 = .ok (.invokevirtual 178, 3) := ydb_0_156.2.2.2.2.2.2.1
theorem dL_law_491 : decode cL_law 491 = .ok (.istore 7, 2) := ydb_0_156.2.2.2.2.2.2.2.1
theorem dL_law_493 : decode cL_law 493 = .ok (.aload_n 2, 1) := ydb_0_156.2.2.2.2.2.2.2.2.1
theorem dL_law_494 : decode cL_law 494 = .ok (.invokevirtual 165, 3) := ydb_0_156.2.2.2.2.2.2.2.2.2.1
theorem dL_law_497 : decode cL_law 497 = .ok (.iload 6, 2) := ydb_0_156.2.2.2.2.2.2.2.2.2.2.1
theorem dL_law_499 : decode cL_law 499 = .ok (.if_icmp .eq 5, 3) := ydb_0_156.2.2.2.2.2.2.2.2.2.2.2
theorem ydb_0_168 : (decode cL_law 504 = .ok (.iload 6, 2)) ∧ (decode cL_law 506 = .ok (.ifCond .ne 15, 3)) ∧ (decode cL_law 521 = .ok (.goto 2616, 3)) ∧ (decode cL_law 524 = .ok (.aload_n 1, 1)) ∧ (decode cL_law 525 = .ok (.invokevirtual 179, 3)) ∧ (decode cL_law 528 = .ok (.aload_n 2, 1)) ∧ (decode cL_law 529 = .ok (.invokevirtual 182, 3)) ∧ (decode cL_law 532 = .ok (.if_icmp .eq 2605, 3)) ∧ (decode cL_law 537 = .ok (.aload_n 1, 1)) ∧ (decode cL_law 538 = .ok (.aload_n 0, 1)) ∧ (decode cL_law 539 = .ok (.iload 5, 2)) ∧ (decode cL_law 541 = .ok (.iconst 1, 1)) := by decide +kernel
theorem dL_law_504 : decode cL_law 504 = .ok (.iload 6, 2) := ydb_0_168.1
theorem dL_law_506 : decode cL_law 506 = .ok (.ifCond .ne 15, 3) := ydb_0_168.2.1
theorem dL_law_521 : decode cL_law 521 = .ok (.goto 2616, 3) := ydb_0_168.2.2.1
theorem dL_law_524 : decode cL_law 524 = .ok (.aload_n 1, 1) := ydb_0_168.2.2.2.1
theorem dL_law_525 : decode cL_law 525 = .ok (.invokevirtual 179, 3) := ydb_0_168.2.2.2.2.1
theorem dL_law_528 : decode cL_law 528 = .ok (.aload_n 2, 1) := ydb_0_168.2.2.2.2.2.1
theorem dL_law_529 : decode cL_law 529 = .ok (.invokevirtual 182, 3) := ydb_0_168.2.2.2.2.2.2.1
theorem dL_law_532 : decode cL_law 532 = .ok (.if_icmp .eq 2605, 3) := ydb_0_168.2.2.2.2.2.2.2.1
theorem dL_law_537 : decode cL_law 537 = .ok (.aload_n 1, 1) := ydb_0_168.2.2.2.2.2.2.2.2.1
theorem dL_law_538 : decode cL_law 538 = .ok (.aload_n 0, 1) := ydb_0_168.2.2.2.2.2.2.2.2.2.1
theorem dL_law_539 : decode cL_law 539 = .ok (.iload 5, 2) := ydb_0_168.2.2.2.2.2.2.2.2.2.2.1
theorem dL_law_541 : decode cL_law 541 = .ok (.iconst 1, 1) := ydb_0_168.2.2.2.2.2.2.2.2.2.2.2
theorem ydb_0_180 : (decode cL_law 542 = .ok (.iadd, 1)) ∧ (decode cL_law 543 = .ok (.iaload, 1)) ∧ (decode cL_law 544 = .ok (.aload_n 0, 1)) ∧ (decode cL_law 545 = .ok (.iload 5, 2)) ∧ (decode cL_law 547 = .ok (.iconst 2, 1)) ∧ (decode cL_law 548 = .ok (.iadd, 1)) ∧ (decode cL_law 549 = .ok (.iaload, 1)) ∧ (decode cL_law 550 = .ok (.aload_n 3, 1)) ∧ (decode cL_law 551 = .ok (.invokestatic 183, 3)) ∧ (decode cL_law 554 = .ok (.istore 6, 2)) ∧ (decode cL_law 556 = .ok (.aload_n 2, 1)) ∧ (decode cL_law 557 = .ok (.aload_n 0, 1)) := by decide +kernel
theorem dL_law_542 : decode cL_law 542 = .ok (.iadd, 1) := ydb_0_180.1
theorem dL_law_543 : decode cL_law 543 = .ok (.iaload, 1) := ydb_0_180.2.1
theorem dL_law_544 : decode cL_law 544 = .ok (.aload_n 0, 1) := ydb_0_180.2.2.1
theorem dL_law_545 : decode cL_law 545 = .ok (.iload 5, 2) := ydb_0_180.2.2.2.1
theorem dL_law_547 : decode cL_law 547 = .ok (.iconst 2, 1) := ydb_0_180.2.2.2.2.1
theorem dL_law_548 : decode cL_law 548 = .ok (.iadd, 1) := ydb_0_180.2.2.2.2.2.1
theorem dL_law_549 : decode cL_law 549 = .ok (.iaload, 1) := ydb_0_180.2.2.2.2.2.2.1
theorem dL_law_550 : decode cL_law 550 = .ok (.aload_n 3, 1) := ydb_0_180.2.2.2.2.2.2.2.1
theorem dL_law_551 : decode cL_law 551 = .ok (.invokestatic 183, 3) := ydb_0_180.2.2.2.2.2.2.2.2.1
theorem dL_law_554 : decode cL_law 554 = .ok (.istore 6, 2) := ydb_0_180.2.2.2.2.2.2.2.2.2.1
theorem dL_law_556 : decode cL_law 556 = .ok (.aload_n 2, 1) := ydb_0_180.2.2.2.2.2.2.2.2.2.2.1
theorem dL_law_557 : decode cL_law 557 = .ok (.aload_n 0, 1) := ydb_0_180.2.2.2.2.2.2.2.2.2.2.2
theorem ydb_0_192 : (decode cL_law 558 = .ok (.iload 5, 2)) ∧ (decode cL_law 560 = .ok (.iconst 1, 1)) ∧ (decode cL_law 561 = .ok (.iadd, 1)) ∧ (decode cL_law 562 = .ok (.iaload, 1)) ∧ (decode cL_law 563 = .ok (.aload_n 0, 1)) ∧ (decode cL_law 564 = .ok (.iload 5, 2)) ∧ (decode cL_law 566 = .ok (.iconst 2, 1)) ∧ (decode cL_law 567 = .ok (.iadd, 1)) ∧ (decode cL_law 568 = .ok (.iaload, 1)) ∧ (decode cL_law 569 = .ok (.invokevirtual 185, 3)) ∧ (decode cL_law 572 = .ok (.istore 7, 2)) ∧ (decode cL_law 574 = .ok (.aload_n 2, 1)) := by decide +kernel
theorem dL_law_558 : decode cL_law 558 = .ok (.iload 5, 2) := ydb_0_192.1
theorem dL_law_560 : decode cL_law 560 = .ok (.iconst 1, 1) := ydb_0_192.2.1
theorem dL_law_561 : decode cL_law 561 = .ok (.iadd, 1) := ydb_0_192.2.2.1
theorem dL_law_562 : decode cL_law 562 = .ok (.iaload, 1) := ydb_0_192.2.2.2.1
theorem dL_law_563 : decode cL_law 563 = .ok (.aload_n 0, 1) := ydb_0_192.2.2.2.2.1
theorem dL_law_564 : decode cL_law 564 = .ok (.iload 5, 2) := ydb_0_192.2.2.2.2.2.1
theorem dL_law_566 : decode cL_law 566 = .ok (.iconst 2, 1) := ydb_0_192.2.2.2.2.2.2.1
theorem dL_law_567 : decode cL_law 567 = .ok (.iadd, 1) := ydb_0_192.2.2.2.2.2.2.2.1
theorem dL_law_568 : decode cL_law 568 = .ok (.iaload, 1) := ydb_0_192.2.2.2.2.2.2.2.2.1
theorem dL_law_569 : decode cL_law 569 = .ok (.invokevirtual 185, 3) := ydb_0_192.2.2.2.2.2.2.2.2.2.1
theorem dL_law_572 : decode cL_law 572 = .ok (.istore 7, 2) := ydb_0_192.2.2.2.2.2.2.2.2.2.2.1
theorem dL_law_574 : decode cL_law 574 = .ok (.aload_n 2, 1) := ydb_0_192.2.2.2.2.2.2.2.2.2.2.2
theorem ydb_0_204 : (decode cL_law 575 = .ok (.invokevirtual 165, 3)) ∧ (decode cL_law 578 = .ok (.iload 6, 2)) ∧ (decode cL_law 580 = .ok (.if_icmp .eq 5, 3)) ∧ (decode cL_law 585 = .ok (.iload 6, 2)) ∧ (decode cL_law 587 = .ok (.ifCond .ne 15, 3)) ∧ (decode cL_law 602 = .ok (.goto 2535, 3)) ∧ (decode cL_law 605 = .ok (.aload_n 1, 1)) ∧ (decode cL_law 606 = .ok (.aload_n 3, 1)) ∧ (decode cL_law 607 = .ok (.invokestatic 186, 3)) ∧ (decode cL_law 610 = .ok (.istore 6, 2)) ∧ (decode cL_law 612 = .ok (.aload_n 2, 1)) ∧ (decode cL_law 613 = .ok (.invokevirtual 189, 3)) := by decide +kernel
theorem dL_law_575 : decode cL_law 575 = .ok (.invokevirtual 165, 3) := ydb_0_204.1
theorem dL_law_578 : decode cL_law 578 = .ok (.iload 6, 2) := ydb_0_204.2.1
theorem dL_law_580 : decode cL_law 580 = .ok (.if_icmp .eq 5, 3) := ydb_0_204.2.2.1
theorem dL_law_585 : decode cL_law 585 = .ok (.iload 6, 2) := ydb_0_204.2.2.2.1
theorem dL_law_587 : decode cL_law 587 = .ok (.ifCond .ne 15, 3) := ydb_0_204.2.2.2.2.1
theorem dL_law_602 : decode cL_law 602 = .ok (.goto 2535, 3) := ydb_0_204.2.2.2.2.2.1
theorem dL_law_605 : decode cL_law 605 = .ok (.aload_n 1, 1) := ydb_0_204.2.2.2.2.2.2.1
theorem dL_law_606 : decode cL_law 606 = .ok (.aload_n 3, 1) := ydb_0_204.2.2.2.2.2.2.2.1
theorem dL_law_607 : decode cL_law 607 = .ok (.invokestatic 186, 3) := ydb_0_204.2.2.2.2.2.2.2.2.1
theorem dL_law_610 : decode cL_law 610 = .ok (.istore 6, 2) := ydb_0_204.2.2.2.2.2.2.2.2.2.1
theorem dL_law_612 : decode cL_law 612 = .ok (.aload_n 2, 1) := ydb_0_204.2.2.2.2.2.2.2.2.2.2.1
theorem dL_law_613 : decode cL_law 613 = .ok (.invokevirtual 189, 3) := ydb_0_204.2.2.2.2.2.2.2.2.2.2.2
theorem ydb_0_216 : (decode cL_law 616 = .ok (.istore 7, 2)) ∧ (decode cL_law 618 = .ok (.aload_n 2, 1)) ∧ (decode cL_law 619 = .ok (.invokevirtual 165, 3)) ∧ (decode cL_law 622 = .ok (.iload 6, 2)) ∧ (decode cL_law 624 = .ok (.if_icmp .eq 5, 3)) ∧ (decode cL_law 629 = .ok (.iload 6, 2)) ∧ (decode cL_law 631 = .ok (.ifCond .ne 15, 3)) ∧ (decode cL_law 646 = .ok (.goto 2491, 3)) ∧ (decode cL_law 649 = .ok (.aload_n 1, 1)) ∧ (decode cL_law 650 = .ok (.aload_n 0, 1)) ∧ (decode cL_law 651 = .ok (.iload 5, 2)) ∧ (decode cL_law 653 = .ok (.iconst 1, 1)) := by decide +kernel
theorem dL_law_616 : decode cL_law 616 = .ok (.istore 7, 2) := ydb_0_216.1
theorem dL_law_618 : decode cL_law 618 = .ok (.aload_n 2, 1) := ydb_0_216.2.1
theorem dL_law_619 : decode cL_law 619 = .ok (.invokevirtual 165, 3) := ydb_0_216.2.2.1
theorem dL_law_622 : decode cL_law 622 = .ok (.iload 6, 2) := ydb_0_216.2.2.2.1
theorem dL_law_624 : decode cL_law 624 = .ok (.if_icmp .eq 5, 3) := ydb_0_216.2.2.2.2.1
theorem dL_law_629 : decode cL_law 629 = .ok (.iload 6, 2) := ydb_0_216.2.2.2.2.2.1
theorem dL_law_631 : decode cL_law 631 = .ok (.ifCond .ne 15, 3) := ydb_0_216.2.2.2.2.2.2.1
theorem dL_law_646 : decode cL_law 646 = .ok (.goto 2491, 3) := ydb_0_216.2.2.2.2.2.2.2.1
theorem dL_law_649 : decode cL_law 649 = .ok (.aload_n 1, 1) := ydb_0_216.2.2.2.2.2.2.2.2.1
theorem dL_law_650 : decode cL_law 650 = .ok (.aload_n 0, 1) := ydb_0_216.2.2.2.2.2.2.2.2.2.1
theorem dL_law_651 : decode cL_law 651 = .ok (.iload 5, 2) := ydb_0_216.2.2.2.2.2.2.2.2.2.2.1
theorem dL_law_653 : decode cL_law 653 = .ok (.iconst 1, 1) := ydb_0_216.2.2.2.2.2.2.2.2.2.2.2
theorem ydb_0_228 : (decode cL_law 654 = .ok (.iadd, 1)) ∧ (decode cL_law 655 = .ok (.iaload, 1)) ∧ (decode cL_law 656 = .ok (.i2c, 1)) ∧ (decode cL_law 657 = .ok (.aload_n 0, 1)) ∧ (decode cL_law 658 = .ok (.iload 5, 2)) ∧ (decode cL_law 660 = .ok (.iconst 2, 1)) ∧ (decode cL_law 661 = .ok (.iadd, 1)) ∧ (decode cL_law 662 = .ok (.iaload, 1)) ∧ (decode cL_law 663 = .ok (.aload_n 0, 1)) ∧ (decode cL_law 664 = .ok (.iload 5, 2)) ∧ (decode cL_law 666 = .ok (.iconst 3, 1)) ∧ (decode cL_law 667 = .ok (.iadd, 1)) := by decide +kernel
theorem dL_law_654 : decode cL_law 654 = .ok (.iadd, 1) := ydb_0_228.1
theorem dL_law_655 : decode cL_law 655 = .ok (.iaload, 1) := ydb_0_228.2.1
theorem dL_law_656 : decode cL_law 656 = .ok (.i2c, 1) := ydb_0_228.2.2.1
theorem dL_law_657 : decode cL_law 657 = .ok (.aload_n 0, 1) := ydb_0_228.2.2.2.1
theorem dL_law_658 : decode cL_law 658 = .ok (.iload 5, 2) := ydb_0_228.2.2.2.2.1
theorem dL_law_660 : decode cL_law 660 = .ok (.iconst 2, 1) := ydb_0_228.2.2.2.2.2.1
theorem dL_law_661 : decode cL_law 661 = .ok (.iadd, 1) := ydb_0_228.2.2.2.2.2.2.1
theorem dL_law_662 : decode cL_law 662 = .ok (.iaload, 1) := ydb_0_228.2.2.2.2.2.2.2.1
theorem dL_law_663 : decode cL_law 663 = .ok (.aload_n 0, 1) := ydb_0_228.2.2.2.2.2.2.2.2.1
theorem dL_law_664 : decode cL_law 664 = .ok (.iload 5, 2) := ydb_0_228.2.2.2.2.2.2.2.2.2.1
theorem dL_law_666 : decode cL_law 666 = .ok (.iconst 3, 1) := ydb_0_228.2.2.2.2.2.2.2.2.2.2.1
theorem dL_law_667 : decode cL_law 667 = .ok (.iadd, 1) := ydb_0_228.2.2.2.2.2.2.2.2.2.2.2
theorem ydb_0_240 : (decode cL_law 668 = .ok (.iaload, 1)) ∧ (decode cL_law 669 = .ok (.aload_n 3, 1)) ∧ (decode cL_law 670 = .ok (.invokestatic 190, 3)) ∧ (decode cL_law 673 = .ok (.istore 6, 2)) ∧ (decode cL_law 675 = .ok (.aload_n 2, 1)) ∧ (decode cL_law 676 = .ok (.aload_n 0, 1)) ∧ (decode cL_law 677 = .ok (.iload 5, 2)) ∧ (decode cL_law 679 = .ok (.iconst 1, 1)) ∧ (decode cL_law 680 = .ok (.iadd, 1)) ∧ (decode cL_law 681 = .ok (.iaload, 1)) := by decide +kernel
theorem dL_law_668 : decode cL_law 668 = .ok (.iaload, 1) := ydb_0_240.1
theorem dL_law_669 : decode cL_law 669 = .ok (.aload_n 3, 1) := ydb_0_240.2.1
theorem dL_law_670 : decode cL_law 670 = .ok (.invokestatic 190, 3) := ydb_0_240.2.2.1
theorem dL_law_673 : decode cL_law 673 = .ok (.istore 6, 2) := ydb_0_240.2.2.2.1
theorem dL_law_675 : decode cL_law 675 = .ok (.aload_n 2, 1) := ydb_0_240.2.2.2.2.1
theorem dL_law_676 : decode cL_law 676 = .ok (.aload_n 0, 1) := ydb_0_240.2.2.2.2.2.1
theorem dL_law_677 : decode cL_law 677 = .ok (.iload 5, 2) := ydb_0_240.2.2.2.2.2.2.1
theorem dL_law_679 : decode cL_law 679 = .ok (.iconst 1, 1) := ydb_0_240.2.2.2.2.2.2.2.1
theorem dL_law_680 : decode cL_law 680 = .ok (.iadd, 1) := ydb_0_240.2.2.2.2.2.2.2.2.1
theorem dL_law_681 : decode cL_law 681 = .ok (.iaload, 1) := ydb_0_240.2.2.2.2.2.2.2.2.2
