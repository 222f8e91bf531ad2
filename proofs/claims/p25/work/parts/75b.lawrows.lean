theorem dL_law_173 : decode cL_law 173 = .ok (.if_icmp .ne 10, 3) := by decide +kernel
theorem dL_law_176 : decode cL_law 176 = .ok (.aload 6, 2) := by decide +kernel
theorem dL_law_178 : decode cL_law 178 = .ok (.iconst 5, 1) := by decide +kernel
theorem dL_law_179 : decode cL_law 179 = .ok (.iaload, 1) := by decide +kernel
theorem dL_law_180 : decode cL_law 180 = .ok (.goto 4, 3) := by decide +kernel
theorem dL_law_183 : decode cL_law 183 = .ok (.iconst 0, 1) := by decide +kernel
theorem dL_law_184 : decode cL_law 184 = .ok (.if_icmp .eq 5, 3) := by decide +kernel
theorem dL_law_187 : decode cL_law 187 = .ok (.iconst 0, 1) := by decide +kernel
theorem dL_law_188 : decode cL_law 188 = .ok (.ireturn, 1) := by decide +kernel
theorem dL_law_189 : decode cL_law 189 = .ok (.aload 9, 2) := by decide +kernel
theorem dL_law_191 : decode cL_law 191 = .ok (.iload 11, 2) := by decide +kernel
theorem dL_law_193 : decode cL_law 193 = .ok (.baload, 1) := by decide +kernel
theorem dL_law_194 : decode cL_law 194 = .ok (.ifCond .ne 6, 3) := by decide +kernel
theorem dL_law_197 : decode cL_law 197 = .ok (.goto 64, 3) := by decide +kernel
theorem dL_law_200 : decode cL_law 200 = .ok (.aload_n 1, 1) := by decide +kernel
theorem dL_law_201 : decode cL_law 201 = .ok (.iload 11, 2) := by decide +kernel
theorem dL_law_203 : decode cL_law 203 = .ok (.iconst 0, 1) := by decide +kernel
theorem dL_law_204 : decode cL_law 204 = .ok (.invokevirtual 91, 3) := by decide +kernel
theorem dL_law_207 : decode cL_law 207 = .ok (.istore 12, 2) := by decide +kernel
theorem dL_law_209 : decode cL_law 209 = .ok (.aload_n 1, 1) := by decide +kernel
theorem dL_law_210 : decode cL_law 210 = .ok (.iload 11, 2) := by decide +kernel
theorem dL_law_212 : decode cL_law 212 = .ok (.iconst 1, 1) := by decide +kernel
theorem dL_law_213 : decode cL_law 213 = .ok (.invokevirtual 91, 3) := by decide +kernel
theorem dL_law_216 : decode cL_law 216 = .ok (.istore 13, 2) := by decide +kernel
theorem dL_law_218 : decode cL_law 218 = .ok (.iload 13, 2) := by decide +kernel
theorem dL_law_220 : decode cL_law 220 = .ok (.iconst 1, 1) := by decide +kernel
theorem dL_law_221 : decode cL_law 221 = .ok (.if_icmp .lt 38, 3) := by decide +kernel
theorem dL_law_224 : decode cL_law 224 = .ok (.iload 12, 2) := by decide +kernel
theorem dL_law_226 : decode cL_law 226 = .ok (.i2l, 1) := by decide +kernel
theorem dL_law_227 : decode cL_law 227 = .ok (.iload 13, 2) := by decide +kernel
theorem dL_law_229 : decode cL_law 229 = .ok (.i2l, 1) := by decide +kernel
theorem dL_law_230 : decode cL_law 230 = .ok (.invokestatic 48, 3) := by decide +kernel
theorem dL_law_233 : decode cL_law 233 = .ok (.lconst 1, 1) := by decide +kernel
theorem dL_law_234 : decode cL_law 234 = .ok (.lcmp, 1) := by decide +kernel
theorem dL_law_235 : decode cL_law 235 = .ok (.ifCond .ne 24, 3) := by decide +kernel
theorem dL_law_238 : decode cL_law 238 = .ok (.iload 12, 2) := by decide +kernel
theorem dL_law_240 : decode cL_law 240 = .ok (.ldc 95, 2) := by decide +kernel
theorem dL_law_242 : decode cL_law 242 = .ok (.if_icmp .gt 17, 3) := by decide +kernel
theorem dL_law_245 : decode cL_law 245 = .ok (.iload 12, 2) := by decide +kernel
theorem dL_law_247 : decode cL_law 247 = .ok (.ldc 96, 2) := by decide +kernel
theorem dL_law_249 : decode cL_law 249 = .ok (.if_icmp .lt 10, 3) := by decide +kernel
theorem dL_law_252 : decode cL_law 252 = .ok (.iload 13, 2) := by decide +kernel
theorem dL_law_254 : decode cL_law 254 = .ok (.ldc 95, 2) := by decide +kernel
theorem dL_law_256 : decode cL_law 256 = .ok (.if_icmp .le 5, 3) := by decide +kernel
theorem dL_law_259 : decode cL_law 259 = .ok (.iconst 0, 1) := by decide +kernel
theorem dL_law_260 : decode cL_law 260 = .ok (.ireturn, 1) := by decide +kernel
theorem dL_law_261 : decode cL_law 261 = .ok (.iinc 11 1, 3) := by decide +kernel
theorem dL_law_264 : decode cL_law 264 = .ok (.goto (-180), 3) := by decide +kernel
theorem dL_law_267 : decode cL_law 267 = .ok (.iconst 0, 1) := by decide +kernel
theorem dL_law_268 : decode cL_law 268 = .ok (.istore 11, 2) := by decide +kernel
theorem dL_law_270 : decode cL_law 270 = .ok (.iload 11, 2) := by decide +kernel
theorem dL_law_272 : decode cL_law 272 = .ok (.aload 6, 2) := by decide +kernel
theorem dL_law_274 : decode cL_law 274 = .ok (.iconst 2, 1) := by decide +kernel
theorem dL_law_275 : decode cL_law 275 = .ok (.iaload, 1) := by decide +kernel
theorem dL_law_276 : decode cL_law 276 = .ok (.if_icmp .ge 371, 3) := by decide +kernel
theorem dL_law_279 : decode cL_law 279 = .ok (.aload_n 3, 1) := by decide +kernel
theorem dL_law_280 : decode cL_law 280 = .ok (.iconst 5, 1) := by decide +kernel
theorem dL_law_281 : decode cL_law 281 = .ok (.aload 4, 2) := by decide +kernel
theorem dL_law_283 : decode cL_law 283 = .ok (.iconst 2, 1) := by decide +kernel
theorem dL_law_284 : decode cL_law 284 = .ok (.iload 11, 2) := by decide +kernel
theorem dL_law_286 : decode cL_law 286 = .ok (.imul, 1) := by decide +kernel
theorem dL_law_287 : decode cL_law 287 = .ok (.iaload, 1) := by decide +kernel
theorem dL_law_288 : decode cL_law 288 = .ok (.imul, 1) := by decide +kernel
theorem dL_law_289 : decode cL_law 289 = .ok (.iaload, 1) := by decide +kernel
theorem dL_law_290 : decode cL_law 290 = .ok (.istore 12, 2) := by decide +kernel
theorem dL_law_292 : decode cL_law 292 = .ok (.aload_n 3, 1) := by decide +kernel
theorem dL_law_293 : decode cL_law 293 = .ok (.iconst 5, 1) := by decide +kernel
theorem dL_law_294 : decode cL_law 294 = .ok (.aload 4, 2) := by decide +kernel
theorem dL_law_296 : decode cL_law 296 = .ok (.iconst 2, 1) := by decide +kernel
theorem dL_law_297 : decode cL_law 297 = .ok (.iload 11, 2) := by decide +kernel
theorem dL_law_299 : decode cL_law 299 = .ok (.imul, 1) := by decide +kernel
theorem dL_law_300 : decode cL_law 300 = .ok (.iconst 1, 1) := by decide +kernel
theorem dL_law_301 : decode cL_law 301 = .ok (.iadd, 1) := by decide +kernel
theorem dL_law_302 : decode cL_law 302 = .ok (.iaload, 1) := by decide +kernel
theorem dL_law_303 : decode cL_law 303 = .ok (.imul, 1) := by decide +kernel
theorem dL_law_304 : decode cL_law 304 = .ok (.iaload, 1) := by decide +kernel
theorem dL_law_305 : decode cL_law 305 = .ok (.istore 13, 2) := by decide +kernel
theorem dL_law_307 : decode cL_law 307 = .ok (.iload 7, 2) := by decide +kernel
theorem dL_law_309 : decode cL_law 309 = .ok (.iload 11, 2) := by decide +kernel
theorem dL_law_311 : decode cL_law 311 = .ok (.ishr, 1) := by decide +kernel
theorem dL_law_312 : decode cL_law 312 = .ok (.iconst 1, 1) := by decide +kernel
theorem dL_law_313 : decode cL_law 313 = .ok (.iand, 1) := by decide +kernel
theorem dL_law_314 : decode cL_law 314 = .ok (.iconst 1, 1) := by decide +kernel
theorem dL_law_315 : decode cL_law 315 = .ok (.if_icmp .ne 7, 3) := by decide +kernel
theorem dL_law_318 : decode cL_law 318 = .ok (.iconst 1, 1) := by decide +kernel
theorem dL_law_319 : decode cL_law 319 = .ok (.goto 4, 3) := by decide +kernel
theorem dL_law_322 : decode cL_law 322 = .ok (.iconst 0, 1) := by decide +kernel
theorem dL_law_323 : decode cL_law 323 = .ok (.istore 14, 2) := by decide +kernel
theorem dL_law_325 : decode cL_law 325 = .ok (.aload 9, 2) := by decide +kernel
theorem dL_law_327 : decode cL_law 327 = .ok (.iload 12, 2) := by decide +kernel
theorem dL_law_329 : decode cL_law 329 = .ok (.baload, 1) := by decide +kernel
theorem dL_law_330 : decode cL_law 330 = .ok (.ifCond .ne 18, 3) := by decide +kernel
theorem dL_law_333 : decode cL_law 333 = .ok (.aload 9, 2) := by decide +kernel
theorem dL_law_335 : decode cL_law 335 = .ok (.iload 13, 2) := by decide +kernel
theorem dL_law_337 : decode cL_law 337 = .ok (.baload, 1) := by decide +kernel
theorem dL_law_338 : decode cL_law 338 = .ok (.ifCond .ne 10, 3) := by decide +kernel
theorem dL_law_341 : decode cL_law 341 = .ok (.iload 14, 2) := by decide +kernel
theorem dL_law_343 : decode cL_law 343 = .ok (.ifCond .eq 298, 3) := by decide +kernel
theorem dL_law_346 : decode cL_law 346 = .ok (.iconst 0, 1) := by decide +kernel
theorem dL_law_347 : decode cL_law 347 = .ok (.ireturn, 1) := by decide +kernel
