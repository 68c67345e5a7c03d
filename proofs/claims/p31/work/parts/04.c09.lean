theorem dL_tellsAll_170 : decode cL_tellsAll 170 = .ok (.iinc 15 1, 3) := by decide +kernel
theorem dL_tellsAll_173 : decode cL_tellsAll 173 = .ok (.iconst 1, 1) := by decide +kernel
theorem dL_tellsAll_174 : decode cL_tellsAll 174 = .ok (.istore 23, 2) := by decide +kernel
theorem dL_tellsAll_176 : decode cL_tellsAll 176 = .ok (.iload 10, 2) := by decide +kernel
theorem dL_tellsAll_178 : decode cL_tellsAll 178 = .ok (.istore 24, 2) := by decide +kernel
theorem dL_tellsAll_180 : decode cL_tellsAll 180 = .ok (.iload 24, 2) := by decide +kernel
theorem dL_tellsAll_182 : decode cL_tellsAll 182 = .ok (.iload 10, 2) := by decide +kernel
theorem dL_tellsAll_184 : decode cL_tellsAll 184 = .ok (.iload 11, 2) := by decide +kernel
theorem dL_tellsAll_186 : decode cL_tellsAll 186 = .ok (.iadd, 1) := by decide +kernel
theorem dL_tellsAll_187 : decode cL_tellsAll 187 = .ok (.if_icmp .gt 37, 3) := by decide +kernel
theorem dL_tellsAll_190 : decode cL_tellsAll 190 = .ok (.iload 23, 2) := by decide +kernel
theorem dL_tellsAll_192 : decode cL_tellsAll 192 = .ok (.ifCond .eq 23, 3) := by decide +kernel
theorem dL_tellsAll_195 : decode cL_tellsAll 195 = .ok (.aload_n 2, 1) := by decide +kernel
theorem dL_tellsAll_196 : decode cL_tellsAll 196 = .ok (.aload_n 3, 1) := by decide +kernel
theorem dL_tellsAll_197 : decode cL_tellsAll 197 = .ok (.aload 5, 2) := by decide +kernel
theorem dL_tellsAll_199 : decode cL_tellsAll 199 = .ok (.aload 6, 2) := by decide +kernel
theorem dL_tellsAll_201 : decode cL_tellsAll 201 = .ok (.iload 21, 2) := by decide +kernel
theorem dL_tellsAll_203 : decode cL_tellsAll 203 = .ok (.iload 24, 2) := by decide +kernel
theorem dL_tellsAll_205 : decode cL_tellsAll 205 = .ok (.invokestatic 124, 3) := by decide +kernel
theorem dL_tellsAll_208 : decode cL_tellsAll 208 = .ok (.ifCond .eq 7, 3) := by decide +kernel
theorem dL_tellsAll_211 : decode cL_tellsAll 211 = .ok (.iconst 1, 1) := by decide +kernel
theorem dL_tellsAll_212 : decode cL_tellsAll 212 = .ok (.goto 4, 3) := by decide +kernel
theorem dL_tellsAll_215 : decode cL_tellsAll 215 = .ok (.iconst 0, 1) := by decide +kernel
theorem dL_tellsAll_216 : decode cL_tellsAll 216 = .ok (.istore 23, 2) := by decide +kernel
theorem dL_tellsAll_218 : decode cL_tellsAll 218 = .ok (.iinc 24 1, 3) := by decide +kernel
theorem dL_tellsAll_221 : decode cL_tellsAll 221 = .ok (.goto (-41), 3) := by decide +kernel
theorem dL_tellsAll_224 : decode cL_tellsAll 224 = .ok (.iload 18, 2) := by decide +kernel
theorem dL_tellsAll_226 : decode cL_tellsAll 226 = .ok (.iload 23, 2) := by decide +kernel
theorem dL_tellsAll_228 : decode cL_tellsAll 228 = .ok (.ifCond .eq 10, 3) := by decide +kernel
theorem dL_tellsAll_231 : decode cL_tellsAll 231 = .ok (.iconst 1, 1) := by decide +kernel
theorem dL_tellsAll_232 : decode cL_tellsAll 232 = .ok (.iload 21, 2) := by decide +kernel
theorem dL_tellsAll_234 : decode cL_tellsAll 234 = .ok (.ishl, 1) := by decide +kernel
theorem dL_tellsAll_235 : decode cL_tellsAll 235 = .ok (.goto 4, 3) := by decide +kernel
theorem dL_tellsAll_238 : decode cL_tellsAll 238 = .ok (.iconst 0, 1) := by decide +kernel
theorem dL_tellsAll_239 : decode cL_tellsAll 239 = .ok (.ior, 1) := by decide +kernel
theorem dL_tellsAll_240 : decode cL_tellsAll 240 = .ok (.istore 18, 2) := by decide +kernel
theorem dL_tellsAll_242 : decode cL_tellsAll 242 = .ok (.iload 17, 2) := by decide +kernel
theorem dL_tellsAll_244 : decode cL_tellsAll 244 = .ok (.aload_n 2, 1) := by decide +kernel
theorem dL_tellsAll_245 : decode cL_tellsAll 245 = .ok (.aload_n 3, 1) := by decide +kernel
theorem dL_tellsAll_246 : decode cL_tellsAll 246 = .ok (.aload 5, 2) := by decide +kernel
theorem dL_tellsAll_248 : decode cL_tellsAll 248 = .ok (.aload 6, 2) := by decide +kernel
theorem dL_tellsAll_250 : decode cL_tellsAll 250 = .ok (.iload 21, 2) := by decide +kernel
theorem dL_tellsAll_252 : decode cL_tellsAll 252 = .ok (.iload 10, 2) := by decide +kernel
theorem dL_tellsAll_254 : decode cL_tellsAll 254 = .ok (.invokestatic 124, 3) := by decide +kernel
theorem dL_tellsAll_257 : decode cL_tellsAll 257 = .ok (.ifCond .eq 10, 3) := by decide +kernel
theorem dL_tellsAll_260 : decode cL_tellsAll 260 = .ok (.iconst 1, 1) := by decide +kernel
theorem dL_tellsAll_261 : decode cL_tellsAll 261 = .ok (.iload 21, 2) := by decide +kernel
theorem dL_tellsAll_263 : decode cL_tellsAll 263 = .ok (.ishl, 1) := by decide +kernel
theorem dL_tellsAll_264 : decode cL_tellsAll 264 = .ok (.goto 4, 3) := by decide +kernel
theorem dL_tellsAll_267 : decode cL_tellsAll 267 = .ok (.iconst 0, 1) := by decide +kernel
theorem dL_tellsAll_268 : decode cL_tellsAll 268 = .ok (.ior, 1) := by decide +kernel
theorem dL_tellsAll_269 : decode cL_tellsAll 269 = .ok (.istore 17, 2) := by decide +kernel
theorem dL_tellsAll_271 : decode cL_tellsAll 271 = .ok (.iload 16, 2) := by decide +kernel
theorem dL_tellsAll_273 : decode cL_tellsAll 273 = .ok (.aload 5, 2) := by decide +kernel
theorem dL_tellsAll_275 : decode cL_tellsAll 275 = .ok (.iload 22, 2) := by decide +kernel
theorem dL_tellsAll_277 : decode cL_tellsAll 277 = .ok (.iaload, 1) := by decide +kernel
theorem dL_tellsAll_278 : decode cL_tellsAll 278 = .ok (.bipush 100, 2) := by decide +kernel
theorem dL_tellsAll_280 : decode cL_tellsAll 280 = .ok (.idiv, 1) := by decide +kernel
theorem dL_tellsAll_281 : decode cL_tellsAll 281 = .ok (.iload 10, 2) := by decide +kernel
theorem dL_tellsAll_283 : decode cL_tellsAll 283 = .ok (.if_icmp .ne 26, 3) := by decide +kernel
theorem dL_tellsAll_286 : decode cL_tellsAll 286 = .ok (.aload_n 2, 1) := by decide +kernel
theorem dL_tellsAll_287 : decode cL_tellsAll 287 = .ok (.aload_n 3, 1) := by decide +kernel
theorem dL_tellsAll_288 : decode cL_tellsAll 288 = .ok (.aload 5, 2) := by decide +kernel
theorem dL_tellsAll_290 : decode cL_tellsAll 290 = .ok (.aload 6, 2) := by decide +kernel
theorem dL_tellsAll_292 : decode cL_tellsAll 292 = .ok (.iload 21, 2) := by decide +kernel
theorem dL_tellsAll_294 : decode cL_tellsAll 294 = .ok (.iload 10, 2) := by decide +kernel
theorem dL_tellsAll_296 : decode cL_tellsAll 296 = .ok (.iload 11, 2) := by decide +kernel
theorem dL_tellsAll_298 : decode cL_tellsAll 298 = .ok (.iadd, 1) := by decide +kernel
theorem dL_tellsAll_299 : decode cL_tellsAll 299 = .ok (.invokestatic 124, 3) := by decide +kernel
theorem dL_tellsAll_302 : decode cL_tellsAll 302 = .ok (.ifCond .eq 7, 3) := by decide +kernel
theorem dL_tellsAll_305 : decode cL_tellsAll 305 = .ok (.iconst 1, 1) := by decide +kernel
theorem dL_tellsAll_306 : decode cL_tellsAll 306 = .ok (.goto 4, 3) := by decide +kernel
theorem dL_tellsAll_309 : decode cL_tellsAll 309 = .ok (.iconst 0, 1) := by decide +kernel
theorem dL_tellsAll_310 : decode cL_tellsAll 310 = .ok (.iadd, 1) := by decide +kernel
theorem dL_tellsAll_311 : decode cL_tellsAll 311 = .ok (.istore 16, 2) := by decide +kernel
theorem dL_tellsAll_313 : decode cL_tellsAll 313 = .ok (.iload 19, 2) := by decide +kernel
theorem dL_tellsAll_315 : decode cL_tellsAll 315 = .ok (.aload_n 2, 1) := by decide +kernel
theorem dL_tellsAll_316 : decode cL_tellsAll 316 = .ok (.aload_n 3, 1) := by decide +kernel
theorem dL_tellsAll_317 : decode cL_tellsAll 317 = .ok (.aload 4, 2) := by decide +kernel
theorem dL_tellsAll_319 : decode cL_tellsAll 319 = .ok (.aload 5, 2) := by decide +kernel
theorem dL_tellsAll_321 : decode cL_tellsAll 321 = .ok (.aload 6, 2) := by decide +kernel
theorem dL_tellsAll_323 : decode cL_tellsAll 323 = .ok (.aload 7, 2) := by decide +kernel
theorem dL_tellsAll_325 : decode cL_tellsAll 325 = .ok (.iload 21, 2) := by decide +kernel
theorem dL_tellsAll_327 : decode cL_tellsAll 327 = .ok (.aload 9, 2) := by decide +kernel
theorem dL_tellsAll_329 : decode cL_tellsAll 329 = .ok (.invokestatic 142, 3) := by decide +kernel
theorem dL_tellsAll_332 : decode cL_tellsAll 332 = .ok (.iload 12, 2) := by decide +kernel
theorem dL_tellsAll_334 : decode cL_tellsAll 334 = .ok (.if_icmp .le 7, 3) := by decide +kernel
theorem dL_tellsAll_337 : decode cL_tellsAll 337 = .ok (.iconst 1, 1) := by decide +kernel
theorem dL_tellsAll_338 : decode cL_tellsAll 338 = .ok (.goto 4, 3) := by decide +kernel
theorem dL_tellsAll_341 : decode cL_tellsAll 341 = .ok (.iconst 0, 1) := by decide +kernel
theorem dL_tellsAll_342 : decode cL_tellsAll 342 = .ok (.iadd, 1) := by decide +kernel
theorem dL_tellsAll_343 : decode cL_tellsAll 343 = .ok (.istore 19, 2) := by decide +kernel
theorem dL_tellsAll_345 : decode cL_tellsAll 345 = .ok (.aload_n 2, 1) := by decide +kernel
theorem dL_tellsAll_346 : decode cL_tellsAll 346 = .ok (.aload_n 3, 1) := by decide +kernel
theorem dL_tellsAll_347 : decode cL_tellsAll 347 = .ok (.aload 4, 2) := by decide +kernel
theorem dL_tellsAll_349 : decode cL_tellsAll 349 = .ok (.aload 5, 2) := by decide +kernel
theorem dL_tellsAll_351 : decode cL_tellsAll 351 = .ok (.aload 6, 2) := by decide +kernel
theorem dL_tellsAll_353 : decode cL_tellsAll 353 = .ok (.aload 7, 2) := by decide +kernel
theorem dL_tellsAll_355 : decode cL_tellsAll 355 = .ok (.iload 21, 2) := by decide +kernel
theorem dL_tellsAll_357 : decode cL_tellsAll 357 = .ok (.iload 13, 2) := by decide +kernel
theorem dL_tellsAll_359 : decode cL_tellsAll 359 = .ok (.aload 9, 2) := by decide +kernel
theorem dL_tellsAll_361 : decode cL_tellsAll 361 = .ok (.invokestatic 145, 3) := by decide +kernel
theorem dL_tellsAll_364 : decode cL_tellsAll 364 = .ok (.istore 24, 2) := by decide +kernel
theorem dL_tellsAll_366 : decode cL_tellsAll 366 = .ok (.iconst 0, 1) := by decide +kernel
theorem dL_tellsAll_367 : decode cL_tellsAll 367 = .ok (.istore 25, 2) := by decide +kernel
theorem dL_tellsAll_369 : decode cL_tellsAll 369 = .ok (.iconst 0, 1) := by decide +kernel
theorem dL_tellsAll_370 : decode cL_tellsAll 370 = .ok (.istore 26, 2) := by decide +kernel
theorem dL_tellsAll_372 : decode cL_tellsAll 372 = .ok (.iload 26, 2) := by decide +kernel
theorem dL_tellsAll_374 : decode cL_tellsAll 374 = .ok (.bipush 8, 2) := by decide +kernel
theorem dL_tellsAll_376 : decode cL_tellsAll 376 = .ok (.if_icmp .ge 77, 3) := by decide +kernel
