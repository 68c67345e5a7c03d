theorem dL_tellsOf_132 : decode cL_tellsOf 132 = .ok (.invokestatic 113, 3) := by decide +kernel
theorem dL_tellsOf_135 : decode cL_tellsOf 135 = .ok (.iload 10, 2) := by decide +kernel
theorem dL_tellsOf_137 : decode cL_tellsOf 137 = .ok (.ifCond .ne 8, 3) := by decide +kernel
theorem dL_tellsOf_140 : decode cL_tellsOf 140 = .ok (.bipush (-101), 2) := by decide +kernel
theorem dL_tellsOf_142 : decode cL_tellsOf 142 = .ok (.goto 20, 3) := by decide +kernel
theorem dL_tellsOf_145 : decode cL_tellsOf 145 = .ok (.iload 13, 2) := by decide +kernel
theorem dL_tellsOf_147 : decode cL_tellsOf 147 = .ok (.ifCond .ge 7, 3) := by decide +kernel
theorem dL_tellsOf_150 : decode cL_tellsOf 150 = .ok (.iconst (-1), 1) := by decide +kernel
theorem dL_tellsOf_151 : decode cL_tellsOf 151 = .ok (.goto 11, 3) := by decide +kernel
theorem dL_tellsOf_154 : decode cL_tellsOf 154 = .ok (.aload 5, 2) := by decide +kernel
theorem dL_tellsOf_156 : decode cL_tellsOf 156 = .ok (.iload 13, 2) := by decide +kernel
theorem dL_tellsOf_158 : decode cL_tellsOf 158 = .ok (.iaload, 1) := by decide +kernel
theorem dL_tellsOf_159 : decode cL_tellsOf 159 = .ok (.bipush 100, 2) := by decide +kernel
theorem dL_tellsOf_161 : decode cL_tellsOf 161 = .ok (.idiv, 1) := by decide +kernel
theorem dL_tellsOf_162 : decode cL_tellsOf 162 = .ok (.if_icmp .eq 5, 3) := by decide +kernel
theorem dL_tellsOf_165 : decode cL_tellsOf 165 = .ok (.iconst 0, 1) := by decide +kernel
theorem dL_tellsOf_166 : decode cL_tellsOf 166 = .ok (.ireturn, 1) := by decide +kernel
theorem dL_tellsOf_167 : decode cL_tellsOf 167 = .ok (.iconst (-1), 1) := by decide +kernel
theorem dL_tellsOf_168 : decode cL_tellsOf 168 = .ok (.istore 14, 2) := by decide +kernel
theorem dL_tellsOf_170 : decode cL_tellsOf 170 = .ok (.iconst 0, 1) := by decide +kernel
theorem dL_tellsOf_171 : decode cL_tellsOf 171 = .ok (.istore 15, 2) := by decide +kernel
theorem dL_tellsOf_173 : decode cL_tellsOf 173 = .ok (.iload 15, 2) := by decide +kernel
theorem dL_tellsOf_175 : decode cL_tellsOf 175 = .ok (.iload 12, 2) := by decide +kernel
theorem dL_tellsOf_177 : decode cL_tellsOf 177 = .ok (.if_icmp .gt 76, 3) := by decide +kernel
theorem dL_tellsOf_180 : decode cL_tellsOf 180 = .ok (.iload 15, 2) := by decide +kernel
theorem dL_tellsOf_182 : decode cL_tellsOf 182 = .ok (.ifCond .eq 8, 3) := by decide +kernel
theorem dL_tellsOf_185 : decode cL_tellsOf 185 = .ok (.iload 14, 2) := by decide +kernel
theorem dL_tellsOf_187 : decode cL_tellsOf 187 = .ok (.ifCond .lt 19, 3) := by decide +kernel
theorem dL_tellsOf_190 : decode cL_tellsOf 190 = .ok (.aload_n 2, 1) := by decide +kernel
theorem dL_tellsOf_191 : decode cL_tellsOf 191 = .ok (.aload_n 3, 1) := by decide +kernel
theorem dL_tellsOf_192 : decode cL_tellsOf 192 = .ok (.aload 5, 2) := by decide +kernel
theorem dL_tellsOf_194 : decode cL_tellsOf 194 = .ok (.aload 6, 2) := by decide +kernel
theorem dL_tellsOf_196 : decode cL_tellsOf 196 = .ok (.iload 11, 2) := by decide +kernel
theorem dL_tellsOf_198 : decode cL_tellsOf 198 = .ok (.iload 14, 2) := by decide +kernel
theorem dL_tellsOf_200 : decode cL_tellsOf 200 = .ok (.invokestatic 15, 3) := by decide +kernel
theorem dL_tellsOf_203 : decode cL_tellsOf 203 = .ok (.goto 4, 3) := by decide +kernel
theorem dL_tellsOf_206 : decode cL_tellsOf 206 = .ok (.iconst (-1), 1) := by decide +kernel
theorem dL_tellsOf_207 : decode cL_tellsOf 207 = .ok (.istore 14, 2) := by decide +kernel
theorem dL_tellsOf_209 : decode cL_tellsOf 209 = .ok (.aload_n 0, 1) := by decide +kernel
theorem dL_tellsOf_210 : decode cL_tellsOf 210 = .ok (.iconst 0, 1) := by decide +kernel
theorem dL_tellsOf_211 : decode cL_tellsOf 211 = .ok (.iload 9, 2) := by decide +kernel
theorem dL_tellsOf_213 : decode cL_tellsOf 213 = .ok (.iload 15, 2) := by decide +kernel
theorem dL_tellsOf_215 : decode cL_tellsOf 215 = .ok (.invokestatic 139, 3) := by decide +kernel
theorem dL_tellsOf_218 : decode cL_tellsOf 218 = .ok (.iload 10, 2) := by decide +kernel
theorem dL_tellsOf_220 : decode cL_tellsOf 220 = .ok (.ifCond .ne 8, 3) := by decide +kernel
theorem dL_tellsOf_223 : decode cL_tellsOf 223 = .ok (.bipush (-101), 2) := by decide +kernel
theorem dL_tellsOf_225 : decode cL_tellsOf 225 = .ok (.goto 17, 3) := by decide +kernel
theorem dL_tellsOf_228 : decode cL_tellsOf 228 = .ok (.iload 15, 2) := by decide +kernel
theorem dL_tellsOf_230 : decode cL_tellsOf 230 = .ok (.iload 12, 2) := by decide +kernel
theorem dL_tellsOf_232 : decode cL_tellsOf 232 = .ok (.if_icmp .ge 8, 3) := by decide +kernel
theorem dL_tellsOf_235 : decode cL_tellsOf 235 = .ok (.iload 14, 2) := by decide +kernel
theorem dL_tellsOf_237 : decode cL_tellsOf 237 = .ok (.goto 5, 3) := by decide +kernel
theorem dL_tellsOf_240 : decode cL_tellsOf 240 = .ok (.bipush (-102), 2) := by decide +kernel
theorem dL_tellsOf_242 : decode cL_tellsOf 242 = .ok (.if_icmp .eq 5, 3) := by decide +kernel
theorem dL_tellsOf_245 : decode cL_tellsOf 245 = .ok (.iconst 0, 1) := by decide +kernel
theorem dL_tellsOf_246 : decode cL_tellsOf 246 = .ok (.ireturn, 1) := by decide +kernel
theorem dL_tellsOf_247 : decode cL_tellsOf 247 = .ok (.iinc 15 1, 3) := by decide +kernel
theorem dL_tellsOf_250 : decode cL_tellsOf 250 = .ok (.goto (-77), 3) := by decide +kernel
theorem dL_tellsOf_253 : decode cL_tellsOf 253 = .ok (.iload_n 1, 1) := by decide +kernel
theorem dL_tellsOf_254 : decode cL_tellsOf 254 = .ok (.iconst 4, 1) := by decide +kernel
theorem dL_tellsOf_255 : decode cL_tellsOf 255 = .ok (.ishr, 1) := by decide +kernel
theorem dL_tellsOf_256 : decode cL_tellsOf 256 = .ok (.bipush 6, 2) := by decide +kernel
theorem dL_tellsOf_258 : decode cL_tellsOf 258 = .ok (.invokestatic 103, 3) := by decide +kernel
theorem dL_tellsOf_261 : decode cL_tellsOf 261 = .ok (.iconst 1, 1) := by decide +kernel
theorem dL_tellsOf_262 : decode cL_tellsOf 262 = .ok (.isub, 1) := by decide +kernel
theorem dL_tellsOf_263 : decode cL_tellsOf 263 = .ok (.istore 15, 2) := by decide +kernel
theorem dL_tellsOf_265 : decode cL_tellsOf 265 = .ok (.aload_n 2, 1) := by decide +kernel
theorem dL_tellsOf_266 : decode cL_tellsOf 266 = .ok (.aload_n 3, 1) := by decide +kernel
theorem dL_tellsOf_267 : decode cL_tellsOf 267 = .ok (.aload 5, 2) := by decide +kernel
theorem dL_tellsOf_269 : decode cL_tellsOf 269 = .ok (.aload 6, 2) := by decide +kernel
theorem dL_tellsOf_271 : decode cL_tellsOf 271 = .ok (.iload 11, 2) := by decide +kernel
theorem dL_tellsOf_273 : decode cL_tellsOf 273 = .ok (.iload 15, 2) := by decide +kernel
theorem dL_tellsOf_275 : decode cL_tellsOf 275 = .ok (.aload 8, 2) := by decide +kernel
theorem dL_tellsOf_277 : decode cL_tellsOf 277 = .ok (.invokestatic 128, 3) := by decide +kernel
theorem dL_tellsOf_280 : decode cL_tellsOf 280 = .ok (.istore 16, 2) := by decide +kernel
theorem dL_tellsOf_282 : decode cL_tellsOf 282 = .ok (.iload 15, 2) := by decide +kernel
theorem dL_tellsOf_284 : decode cL_tellsOf 284 = .ok (.ifCond .lt 14, 3) := by decide +kernel
theorem dL_tellsOf_287 : decode cL_tellsOf 287 = .ok (.iload 15, 2) := by decide +kernel
theorem dL_tellsOf_289 : decode cL_tellsOf 289 = .ok (.iload 16, 2) := by decide +kernel
theorem dL_tellsOf_291 : decode cL_tellsOf 291 = .ok (.if_icmp .ge 7, 3) := by decide +kernel
theorem dL_tellsOf_294 : decode cL_tellsOf 294 = .ok (.iconst 1, 1) := by decide +kernel
theorem dL_tellsOf_295 : decode cL_tellsOf 295 = .ok (.goto 4, 3) := by decide +kernel
theorem dL_tellsOf_298 : decode cL_tellsOf 298 = .ok (.iconst 0, 1) := by decide +kernel
theorem dL_tellsOf_299 : decode cL_tellsOf 299 = .ok (.istore 17, 2) := by decide +kernel
theorem dL_tellsOf_301 : decode cL_tellsOf 301 = .ok (.iload 10, 2) := by decide +kernel
theorem dL_tellsOf_303 : decode cL_tellsOf 303 = .ok (.ifCond .eq 8, 3) := by decide +kernel
theorem dL_tellsOf_306 : decode cL_tellsOf 306 = .ok (.bipush (-102), 2) := by decide +kernel
theorem dL_tellsOf_308 : decode cL_tellsOf 308 = .ok (.goto 5, 3) := by decide +kernel
theorem dL_tellsOf_311 : decode cL_tellsOf 311 = .ok (.bipush (-101), 2) := by decide +kernel
theorem dL_tellsOf_313 : decode cL_tellsOf 313 = .ok (.istore 18, 2) := by decide +kernel
theorem dL_tellsOf_315 : decode cL_tellsOf 315 = .ok (.aload_n 0, 1) := by decide +kernel
theorem dL_tellsOf_316 : decode cL_tellsOf 316 = .ok (.iconst 2, 1) := by decide +kernel
theorem dL_tellsOf_317 : decode cL_tellsOf 317 = .ok (.iload 9, 2) := by decide +kernel
theorem dL_tellsOf_319 : decode cL_tellsOf 319 = .ok (.invokestatic 113, 3) := by decide +kernel
theorem dL_tellsOf_322 : decode cL_tellsOf 322 = .ok (.iload 10, 2) := by decide +kernel
theorem dL_tellsOf_324 : decode cL_tellsOf 324 = .ok (.ifCond .eq 8, 3) := by decide +kernel
theorem dL_tellsOf_327 : decode cL_tellsOf 327 = .ok (.iload 16, 2) := by decide +kernel
theorem dL_tellsOf_329 : decode cL_tellsOf 329 = .ok (.goto 5, 3) := by decide +kernel
theorem dL_tellsOf_332 : decode cL_tellsOf 332 = .ok (.bipush (-101), 2) := by decide +kernel
theorem dL_tellsOf_334 : decode cL_tellsOf 334 = .ok (.if_icmp .ne 96, 3) := by decide +kernel
theorem dL_tellsOf_337 : decode cL_tellsOf 337 = .ok (.aload_n 0, 1) := by decide +kernel
theorem dL_tellsOf_338 : decode cL_tellsOf 338 = .ok (.iconst 1, 1) := by decide +kernel
theorem dL_tellsOf_339 : decode cL_tellsOf 339 = .ok (.iload 9, 2) := by decide +kernel
theorem dL_tellsOf_341 : decode cL_tellsOf 341 = .ok (.iload 15, 2) := by decide +kernel
theorem dL_tellsOf_343 : decode cL_tellsOf 343 = .ok (.invokestatic 139, 3) := by decide +kernel
theorem dL_tellsOf_346 : decode cL_tellsOf 346 = .ok (.iload 17, 2) := by decide +kernel
theorem dL_tellsOf_348 : decode cL_tellsOf 348 = .ok (.ifCond .eq 15, 3) := by decide +kernel
theorem dL_tellsOf_351 : decode cL_tellsOf 351 = .ok (.iload 10, 2) := by decide +kernel
theorem dL_tellsOf_353 : decode cL_tellsOf 353 = .ok (.ifCond .eq 10, 3) := by decide +kernel
theorem dL_tellsOf_356 : decode cL_tellsOf 356 = .ok (.aload 8, 2) := by decide +kernel
