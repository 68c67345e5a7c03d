theorem dL_acts_125 : decode cL_acts 125 = .ok (.ishr, 1) := by decide +kernel
theorem dL_acts_126 : decode cL_acts 126 = .ok (.sipush 260, 3) := by decide +kernel
theorem dL_acts_129 : decode cL_acts 129 = .ok (.invokestatic 103, 3) := by decide +kernel
theorem dL_acts_132 : decode cL_acts 132 = .ok (.iadd, 1) := by decide +kernel
theorem dL_acts_133 : decode cL_acts 133 = .ok (.istore 12, 2) := by decide +kernel
theorem dL_acts_135 : decode cL_acts 135 = .ok (.iload 10, 2) := by decide +kernel
theorem dL_acts_137 : decode cL_acts 137 = .ok (.ifCond .lt 34, 3) := by decide +kernel
theorem dL_acts_140 : decode cL_acts 140 = .ok (.iload 10, 2) := by decide +kernel
theorem dL_acts_142 : decode cL_acts 142 = .ok (.bipush 20, 2) := by decide +kernel
theorem dL_acts_144 : decode cL_acts 144 = .ok (.if_icmp .ge 27, 3) := by decide +kernel
theorem dL_acts_147 : decode cL_acts 147 = .ok (.iload 11, 2) := by decide +kernel
theorem dL_acts_149 : decode cL_acts 149 = .ok (.bipush 10, 2) := by decide +kernel
theorem dL_acts_151 : decode cL_acts 151 = .ok (.if_icmp .ge 20, 3) := by decide +kernel
theorem dL_acts_154 : decode cL_acts 154 = .ok (.iload 12, 2) := by decide +kernel
theorem dL_acts_156 : decode cL_acts 156 = .ok (.ifCond .lt 15, 3) := by decide +kernel
theorem dL_acts_159 : decode cL_acts 159 = .ok (.iload 12, 2) := by decide +kernel
theorem dL_acts_161 : decode cL_acts 161 = .ok (.sipush 2000, 3) := by decide +kernel
theorem dL_acts_164 : decode cL_acts 164 = .ok (.if_icmp .ge 7, 3) := by decide +kernel
theorem dL_acts_167 : decode cL_acts 167 = .ok (.iconst 1, 1) := by decide +kernel
theorem dL_acts_168 : decode cL_acts 168 = .ok (.goto 4, 3) := by decide +kernel
theorem dL_acts_171 : decode cL_acts 171 = .ok (.iconst 0, 1) := by decide +kernel
theorem dL_acts_172 : decode cL_acts 172 = .ok (.istore 13, 2) := by decide +kernel
theorem dL_acts_174 : decode cL_acts 174 = .ok (.iload 13, 2) := by decide +kernel
theorem dL_acts_176 : decode cL_acts 176 = .ok (.ifCond .ne 8, 3) := by decide +kernel
theorem dL_acts_179 : decode cL_acts 179 = .ok (.bipush (-101), 2) := by decide +kernel
theorem dL_acts_181 : decode cL_acts 181 = .ok (.goto 24, 3) := by decide +kernel
theorem dL_acts_184 : decode cL_acts 184 = .ok (.iload 12, 2) := by decide +kernel
theorem dL_acts_186 : decode cL_acts 186 = .ok (.bipush 100, 2) := by decide +kernel
theorem dL_acts_188 : decode cL_acts 188 = .ok (.idiv, 1) := by decide +kernel
theorem dL_acts_189 : decode cL_acts 189 = .ok (.aload 7, 2) := by decide +kernel
theorem dL_acts_191 : decode cL_acts 191 = .ok (.iconst 4, 1) := by decide +kernel
theorem dL_acts_192 : decode cL_acts 192 = .ok (.iaload, 1) := by decide +kernel
theorem dL_acts_193 : decode cL_acts 193 = .ok (.if_icmp .ge 8, 3) := by decide +kernel
theorem dL_acts_196 : decode cL_acts 196 = .ok (.bipush (-102), 2) := by decide +kernel
theorem dL_acts_198 : decode cL_acts 198 = .ok (.goto 7, 3) := by decide +kernel
theorem dL_acts_201 : decode cL_acts 201 = .ok (.aload 7, 2) := by decide +kernel
theorem dL_acts_203 : decode cL_acts 203 = .ok (.iconst 0, 1) := by decide +kernel
theorem dL_acts_204 : decode cL_acts 204 = .ok (.iaload, 1) := by decide +kernel
theorem dL_acts_205 : decode cL_acts 205 = .ok (.istore 14, 2) := by decide +kernel
theorem dL_acts_207 : decode cL_acts 207 = .ok (.iload 14, 2) := by decide +kernel
theorem dL_acts_209 : decode cL_acts 209 = .ok (.bipush 64, 2) := by decide +kernel
theorem dL_acts_211 : decode cL_acts 211 = .ok (.if_icmp .ne 5, 3) := by decide +kernel
theorem dL_acts_214 : decode cL_acts 214 = .ok (.iconst 1, 1) := by decide +kernel
theorem dL_acts_215 : decode cL_acts 215 = .ok (.ireturn, 1) := by decide +kernel
theorem dL_acts_216 : decode cL_acts 216 = .ok (.iload 14, 2) := by decide +kernel
theorem dL_acts_218 : decode cL_acts 218 = .ok (.ifCond .lt 32, 3) := by decide +kernel
theorem dL_acts_221 : decode cL_acts 221 = .ok (.aload 4, 2) := by decide +kernel
theorem dL_acts_223 : decode cL_acts 223 = .ok (.iload 14, 2) := by decide +kernel
theorem dL_acts_225 : decode cL_acts 225 = .ok (.iload 10, 2) := by decide +kernel
theorem dL_acts_227 : decode cL_acts 227 = .ok (.iastore, 1) := by decide +kernel
theorem dL_acts_228 : decode cL_acts 228 = .ok (.aload 5, 2) := by decide +kernel
theorem dL_acts_230 : decode cL_acts 230 = .ok (.iload 14, 2) := by decide +kernel
theorem dL_acts_232 : decode cL_acts 232 = .ok (.iload 11, 2) := by decide +kernel
theorem dL_acts_234 : decode cL_acts 234 = .ok (.iastore, 1) := by decide +kernel
theorem dL_acts_235 : decode cL_acts 235 = .ok (.aload 6, 2) := by decide +kernel
theorem dL_acts_237 : decode cL_acts 237 = .ok (.iload 14, 2) := by decide +kernel
theorem dL_acts_239 : decode cL_acts 239 = .ok (.iload 12, 2) := by decide +kernel
theorem dL_acts_241 : decode cL_acts 241 = .ok (.iastore, 1) := by decide +kernel
theorem dL_acts_242 : decode cL_acts 242 = .ok (.aload 7, 2) := by decide +kernel
theorem dL_acts_244 : decode cL_acts 244 = .ok (.iconst 0, 1) := by decide +kernel
theorem dL_acts_245 : decode cL_acts 245 = .ok (.dup2, 1) := by decide +kernel
theorem dL_acts_246 : decode cL_acts 246 = .ok (.iaload, 1) := by decide +kernel
theorem dL_acts_247 : decode cL_acts 247 = .ok (.iconst 1, 1) := by decide +kernel
theorem dL_acts_248 : decode cL_acts 248 = .ok (.iadd, 1) := by decide +kernel
theorem dL_acts_249 : decode cL_acts 249 = .ok (.iastore, 1) := by decide +kernel
theorem dL_acts_250 : decode cL_acts 250 = .ok (.aload_n 0, 1) := by decide +kernel
theorem dL_acts_251 : decode cL_acts 251 = .ok (.iload 10, 2) := by decide +kernel
theorem dL_acts_253 : decode cL_acts 253 = .ok (.iload 11, 2) := by decide +kernel
theorem dL_acts_255 : decode cL_acts 255 = .ok (.iload 12, 2) := by decide +kernel
theorem dL_acts_257 : decode cL_acts 257 = .ok (.invokestatic 106, 3) := by decide +kernel
theorem dL_acts_260 : decode cL_acts 260 = .ok (.iload 14, 2) := by decide +kernel
theorem dL_acts_262 : decode cL_acts 262 = .ok (.if_icmp .ne 7, 3) := by decide +kernel
theorem dL_acts_265 : decode cL_acts 265 = .ok (.iconst 1, 1) := by decide +kernel
theorem dL_acts_266 : decode cL_acts 266 = .ok (.goto 4, 3) := by decide +kernel
theorem dL_acts_269 : decode cL_acts 269 = .ok (.iconst 0, 1) := by decide +kernel
theorem dL_acts_270 : decode cL_acts 270 = .ok (.ireturn, 1) := by decide +kernel
theorem dL_acts_271 : decode cL_acts 271 = .ok (.iload_n 1, 1) := by decide +kernel
theorem dL_acts_272 : decode cL_acts 272 = .ok (.bipush 12, 2) := by decide +kernel
theorem dL_acts_274 : decode cL_acts 274 = .ok (.if_icmp .ge 165, 3) := by decide +kernel
theorem dL_acts_277 : decode cL_acts 277 = .ok (.iload_n 2, 1) := by decide +kernel
theorem dL_acts_278 : decode cL_acts 278 = .ok (.bipush 40, 2) := by decide +kernel
theorem dL_acts_280 : decode cL_acts 280 = .ok (.invokestatic 103, 3) := by decide +kernel
theorem dL_acts_283 : decode cL_acts 283 = .ok (.ifCond .ne 8, 3) := by decide +kernel
theorem dL_acts_286 : decode cL_acts 286 = .ok (.bipush 20, 2) := by decide +kernel
theorem dL_acts_288 : decode cL_acts 288 = .ok (.goto 9, 3) := by decide +kernel
theorem dL_acts_291 : decode cL_acts 291 = .ok (.iload_n 2, 1) := by decide +kernel
theorem dL_acts_292 : decode cL_acts 292 = .ok (.bipush 8, 2) := by decide +kernel
theorem dL_acts_294 : decode cL_acts 294 = .ok (.invokestatic 103, 3) := by decide +kernel
theorem dL_acts_297 : decode cL_acts 297 = .ok (.istore 10, 2) := by decide +kernel
theorem dL_acts_299 : decode cL_acts 299 = .ok (.iload_n 2, 1) := by decide +kernel
theorem dL_acts_300 : decode cL_acts 300 = .ok (.iconst 5, 1) := by decide +kernel
theorem dL_acts_301 : decode cL_acts 301 = .ok (.ishr, 1) := by decide +kernel
theorem dL_acts_302 : decode cL_acts 302 = .ok (.bipush 8, 2) := by decide +kernel
theorem dL_acts_304 : decode cL_acts 304 = .ok (.invokestatic 103, 3) := by decide +kernel
theorem dL_acts_307 : decode cL_acts 307 = .ok (.istore 11, 2) := by decide +kernel
theorem dL_acts_309 : decode cL_acts 309 = .ok (.iload 10, 2) := by decide +kernel
theorem dL_acts_311 : decode cL_acts 311 = .ok (.bipush 19, 2) := by decide +kernel
theorem dL_acts_313 : decode cL_acts 313 = .ok (.if_icmp .le 8, 3) := by decide +kernel
theorem dL_acts_316 : decode cL_acts 316 = .ok (.bipush (-101), 2) := by decide +kernel
theorem dL_acts_318 : decode cL_acts 318 = .ok (.goto 25, 3) := by decide +kernel
theorem dL_acts_321 : decode cL_acts 321 = .ok (.aload_n 3, 1) := by decide +kernel
theorem dL_acts_322 : decode cL_acts 322 = .ok (.iload 10, 2) := by decide +kernel
theorem dL_acts_324 : decode cL_acts 324 = .ok (.iaload, 1) := by decide +kernel
theorem dL_acts_325 : decode cL_acts 325 = .ok (.aload_n 3, 1) := by decide +kernel
theorem dL_acts_326 : decode cL_acts 326 = .ok (.iload 11, 2) := by decide +kernel
theorem dL_acts_328 : decode cL_acts 328 = .ok (.iaload, 1) := by decide +kernel
theorem dL_acts_329 : decode cL_acts 329 = .ok (.if_icmp .ge 10, 3) := by decide +kernel
theorem dL_acts_332 : decode cL_acts 332 = .ok (.aload_n 3, 1) := by decide +kernel
theorem dL_acts_333 : decode cL_acts 333 = .ok (.iload 10, 2) := by decide +kernel
theorem dL_acts_335 : decode cL_acts 335 = .ok (.iaload, 1) := by decide +kernel
