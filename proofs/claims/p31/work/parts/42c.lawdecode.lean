theorem dL_does_56 : decode cL_does 56 = .ok (.istore 6, 2) := by decide +kernel
theorem dL_does_58 : decode cL_does 58 = .ok (.iload_n 1, 1) := by decide +kernel
theorem dL_does_59 : decode cL_does 59 = .ok (.bipush 8, 2) := by decide +kernel
theorem dL_does_61 : decode cL_does 61 = .ok (.irem, 1) := by decide +kernel
theorem dL_does_62 : decode cL_does 62 = .ok (.tableswitch 364 0 6 #[42, 42, 42, 184, 184, 240, 317], 42) := by decide +kernel
theorem dL_does_104 : decode cL_does 104 = .ok (.aload_n 0, 1) := by decide +kernel
theorem dL_does_105 : decode cL_does 105 = .ok (.iload_n 3, 1) := by decide +kernel
theorem dL_does_106 : decode cL_does 106 = .ok (.iload 4, 2) := by decide +kernel
theorem dL_does_108 : decode cL_does 108 = .ok (.invokevirtual 32, 3) := by decide +kernel
theorem dL_does_111 : decode cL_does 111 = .ok (.istore 7, 2) := by decide +kernel
theorem dL_does_113 : decode cL_does 113 = .ok (.aload_n 0, 1) := by decide +kernel
theorem dL_does_114 : decode cL_does 114 = .ok (.iload_n 3, 1) := by decide +kernel
theorem dL_does_115 : decode cL_does 115 = .ok (.iload 4, 2) := by decide +kernel
theorem dL_does_117 : decode cL_does 117 = .ok (.invokevirtual 35, 3) := by decide +kernel
theorem dL_does_120 : decode cL_does 120 = .ok (.istore 8, 2) := by decide +kernel
theorem dL_does_122 : decode cL_does 122 = .ok (.iload 7, 2) := by decide +kernel
theorem dL_does_124 : decode cL_does 124 = .ok (.ifCond .lt 84, 3) := by decide +kernel
theorem dL_does_127 : decode cL_does 127 = .ok (.aload_n 0, 1) := by decide +kernel
theorem dL_does_128 : decode cL_does 128 = .ok (.invokevirtual 25, 3) := by decide +kernel
theorem dL_does_131 : decode cL_does 131 = .ok (.bipush 30, 2) := by decide +kernel
theorem dL_does_133 : decode cL_does 133 = .ok (.if_icmp .ge 75, 3) := by decide +kernel
theorem dL_does_136 : decode cL_does 136 = .ok (.aload_n 0, 1) := by decide +kernel
theorem dL_does_137 : decode cL_does 137 = .ok (.iload 8, 2) := by decide +kernel
theorem dL_does_139 : decode cL_does 139 = .ok (.invokevirtual 38, 3) := by decide +kernel
theorem dL_does_142 : decode cL_does 142 = .ok (.istore 9, 2) := by decide +kernel
theorem dL_does_144 : decode cL_does 144 = .ok (.aload_n 0, 1) := by decide +kernel
theorem dL_does_145 : decode cL_does 145 = .ok (.iload_n 3, 1) := by decide +kernel
theorem dL_does_146 : decode cL_does 146 = .ok (.iload 4, 2) := by decide +kernel
theorem dL_does_148 : decode cL_does 148 = .ok (.invokevirtual 41, 3) := by decide +kernel
theorem dL_does_151 : decode cL_does 151 = .ok (.istore 10, 2) := by decide +kernel
theorem dL_does_153 : decode cL_does 153 = .ok (.aload_n 0, 1) := by decide +kernel
theorem dL_does_154 : decode cL_does 154 = .ok (.iload 10, 2) := by decide +kernel
theorem dL_does_156 : decode cL_does 156 = .ok (.invokevirtual 29, 3) := by decide +kernel
theorem dL_does_159 : decode cL_does 159 = .ok (.iload 7, 2) := by decide +kernel
theorem dL_does_161 : decode cL_does 161 = .ok (.if_icmp .ne 45, 3) := by decide +kernel
theorem dL_does_164 : decode cL_does 164 = .ok (.aload_n 0, 1) := by decide +kernel
theorem dL_does_165 : decode cL_does 165 = .ok (.iload 10, 2) := by decide +kernel
theorem dL_does_167 : decode cL_does 167 = .ok (.invokevirtual 44, 3) := by decide +kernel
theorem dL_does_170 : decode cL_does 170 = .ok (.iload 8, 2) := by decide +kernel
theorem dL_does_172 : decode cL_does 172 = .ok (.if_icmp .ne 34, 3) := by decide +kernel
theorem dL_does_175 : decode cL_does 175 = .ok (.aload_n 0, 1) := by decide +kernel
theorem dL_does_176 : decode cL_does 176 = .ok (.iload 10, 2) := by decide +kernel
theorem dL_does_178 : decode cL_does 178 = .ok (.invokevirtual 47, 3) := by decide +kernel
theorem dL_does_181 : decode cL_does 181 = .ok (.iload_n 3, 1) := by decide +kernel
theorem dL_does_182 : decode cL_does 182 = .ok (.if_icmp .ne 24, 3) := by decide +kernel
theorem dL_does_185 : decode cL_does 185 = .ok (.aload_n 0, 1) := by decide +kernel
theorem dL_does_186 : decode cL_does 186 = .ok (.iload 8, 2) := by decide +kernel
theorem dL_does_188 : decode cL_does 188 = .ok (.invokevirtual 38, 3) := by decide +kernel
theorem dL_does_191 : decode cL_does 191 = .ok (.iload 9, 2) := by decide +kernel
theorem dL_does_193 : decode cL_does 193 = .ok (.aload_n 0, 1) := by decide +kernel
theorem dL_does_194 : decode cL_does 194 = .ok (.iload_n 3, 1) := by decide +kernel
theorem dL_does_195 : decode cL_does 195 = .ok (.invokevirtual 50, 3) := by decide +kernel
theorem dL_does_198 : decode cL_does 198 = .ok (.iadd, 1) := by decide +kernel
theorem dL_does_199 : decode cL_does 199 = .ok (.if_icmp .ne 7, 3) := by decide +kernel
theorem dL_does_202 : decode cL_does 202 = .ok (.iconst 1, 1) := by decide +kernel
theorem dL_does_203 : decode cL_does 203 = .ok (.goto 4, 3) := by decide +kernel
theorem dL_does_206 : decode cL_does 206 = .ok (.iconst 0, 1) := by decide +kernel
theorem dL_does_207 : decode cL_does 207 = .ok (.ireturn, 1) := by decide +kernel
theorem dL_does_208 : decode cL_does 208 = .ok (.iload 7, 2) := by decide +kernel
theorem dL_does_210 : decode cL_does 210 = .ok (.ifCond .ge 7, 3) := by decide +kernel
theorem dL_does_213 : decode cL_does 213 = .ok (.iconst 1, 1) := by decide +kernel
theorem dL_does_214 : decode cL_does 214 = .ok (.goto 4, 3) := by decide +kernel
theorem dL_does_217 : decode cL_does 217 = .ok (.iconst 0, 1) := by decide +kernel
theorem dL_does_218 : decode cL_does 218 = .ok (.iload 8, 2) := by decide +kernel
theorem dL_does_220 : decode cL_does 220 = .ok (.ifCond .ge 7, 3) := by decide +kernel
theorem dL_does_223 : decode cL_does 223 = .ok (.iconst 1, 1) := by decide +kernel
theorem dL_does_224 : decode cL_does 224 = .ok (.goto 4, 3) := by decide +kernel
theorem dL_does_227 : decode cL_does 227 = .ok (.iconst 0, 1) := by decide +kernel
theorem dL_does_228 : decode cL_does 228 = .ok (.if_icmp .eq 12, 3) := by decide +kernel
theorem dL_does_231 : decode cL_does 231 = .ok (.aload_n 0, 1) := by decide +kernel
theorem dL_does_232 : decode cL_does 232 = .ok (.invokevirtual 25, 3) := by decide +kernel
theorem dL_does_235 : decode cL_does 235 = .ok (.bipush 30, 2) := by decide +kernel
theorem dL_does_237 : decode cL_does 237 = .ok (.if_icmp .ne 7, 3) := by decide +kernel
theorem dL_does_240 : decode cL_does 240 = .ok (.iconst 1, 1) := by decide +kernel
theorem dL_does_241 : decode cL_does 241 = .ok (.goto 4, 3) := by decide +kernel
theorem dL_does_244 : decode cL_does 244 = .ok (.iconst 0, 1) := by decide +kernel
theorem dL_does_245 : decode cL_does 245 = .ok (.ireturn, 1) := by decide +kernel
theorem dL_does_246 : decode cL_does 246 = .ok (.iload 6, 2) := by decide +kernel
theorem dL_does_248 : decode cL_does 248 = .ok (.ifCond .eq 52, 3) := by decide +kernel
theorem dL_does_251 : decode cL_does 251 = .ok (.aload_n 0, 1) := by decide +kernel
theorem dL_does_252 : decode cL_does 252 = .ok (.aload_n 0, 1) := by decide +kernel
theorem dL_does_253 : decode cL_does 253 = .ok (.iload 5, 2) := by decide +kernel
theorem dL_does_255 : decode cL_does 255 = .ok (.invokevirtual 47, 3) := by decide +kernel
theorem dL_does_258 : decode cL_does 258 = .ok (.iload 4, 2) := by decide +kernel
theorem dL_does_260 : decode cL_does 260 = .ok (.invokevirtual 32, 3) := by decide +kernel
theorem dL_does_263 : decode cL_does 263 = .ok (.ifCond .lt 37, 3) := by decide +kernel
theorem dL_does_266 : decode cL_does 266 = .ok (.aload_n 0, 1) := by decide +kernel
theorem dL_does_267 : decode cL_does 267 = .ok (.iload 5, 2) := by decide +kernel
theorem dL_does_269 : decode cL_does 269 = .ok (.iload 4, 2) := by decide +kernel
theorem dL_does_271 : decode cL_does 271 = .ok (.invokevirtual 53, 3) := by decide +kernel
theorem dL_does_274 : decode cL_does 274 = .ok (.istore 9, 2) := by decide +kernel
theorem dL_does_276 : decode cL_does 276 = .ok (.iload 9, 2) := by decide +kernel
theorem dL_does_278 : decode cL_does 278 = .ok (.iload 4, 2) := by decide +kernel
theorem dL_does_280 : decode cL_does 280 = .ok (.if_icmp .lt 18, 3) := by decide +kernel
theorem dL_does_283 : decode cL_does 283 = .ok (.aload_n 0, 1) := by decide +kernel
theorem dL_does_284 : decode cL_does 284 = .ok (.iload 5, 2) := by decide +kernel
theorem dL_does_286 : decode cL_does 286 = .ok (.invokevirtual 29, 3) := by decide +kernel
theorem dL_does_289 : decode cL_does 289 = .ok (.iload 9, 2) := by decide +kernel
theorem dL_does_291 : decode cL_does 291 = .ok (.if_icmp .ne 7, 3) := by decide +kernel
theorem dL_does_294 : decode cL_does 294 = .ok (.iconst 1, 1) := by decide +kernel
theorem dL_does_295 : decode cL_does 295 = .ok (.goto 4, 3) := by decide +kernel
theorem dL_does_298 : decode cL_does 298 = .ok (.iconst 0, 1) := by decide +kernel
theorem dL_does_299 : decode cL_does 299 = .ok (.ireturn, 1) := by decide +kernel
theorem dL_does_300 : decode cL_does 300 = .ok (.iconst 1, 1) := by decide +kernel
theorem dL_does_301 : decode cL_does 301 = .ok (.ireturn, 1) := by decide +kernel
theorem dL_does_302 : decode cL_does 302 = .ok (.iload 6, 2) := by decide +kernel
theorem dL_does_304 : decode cL_does 304 = .ok (.ifCond .eq 73, 3) := by decide +kernel
theorem dL_does_307 : decode cL_does 307 = .ok (.aload_n 0, 1) := by decide +kernel
theorem dL_does_308 : decode cL_does 308 = .ok (.invokevirtual 56, 3) := by decide +kernel
theorem dL_does_311 : decode cL_does 311 = .ok (.istore 9, 2) := by decide +kernel
theorem dL_does_313 : decode cL_does 313 = .ok (.aload_n 0, 1) := by decide +kernel
theorem dL_does_314 : decode cL_does 314 = .ok (.invokevirtual 25, 3) := by decide +kernel
theorem dL_does_317 : decode cL_does 317 = .ok (.istore 10, 2) := by decide +kernel
theorem dL_does_319 : decode cL_does 319 = .ok (.aload_n 0, 1) := by decide +kernel
theorem dL_does_320 : decode cL_does 320 = .ok (.iload 5, 2) := by decide +kernel
theorem dL_does_322 : decode cL_does 322 = .ok (.invokevirtual 59, 3) := by decide +kernel
theorem dL_does_325 : decode cL_does 325 = .ok (.istore 11, 2) := by decide +kernel
theorem dL_does_327 : decode cL_does 327 = .ok (.aload_n 0, 1) := by decide +kernel
theorem dL_does_328 : decode cL_does 328 = .ok (.iload 5, 2) := by decide +kernel
theorem dL_does_330 : decode cL_does 330 = .ok (.invokevirtual 29, 3) := by decide +kernel
theorem dL_does_333 : decode cL_does 333 = .ok (.iconst (-1), 1) := by decide +kernel
theorem dL_does_334 : decode cL_does 334 = .ok (.if_icmp .ne 41, 3) := by decide +kernel
theorem dL_does_337 : decode cL_does 337 = .ok (.aload_n 0, 1) := by decide +kernel
theorem dL_does_338 : decode cL_does 338 = .ok (.iload 5, 2) := by decide +kernel
theorem dL_does_340 : decode cL_does 340 = .ok (.invokevirtual 62, 3) := by decide +kernel
theorem dL_does_343 : decode cL_does 343 = .ok (.iconst (-1), 1) := by decide +kernel
theorem dL_does_344 : decode cL_does 344 = .ok (.if_icmp .ne 31, 3) := by decide +kernel
theorem dL_does_347 : decode cL_does 347 = .ok (.aload_n 0, 1) := by decide +kernel
theorem dL_does_348 : decode cL_does 348 = .ok (.invokevirtual 56, 3) := by decide +kernel
theorem dL_does_351 : decode cL_does 351 = .ok (.iload 9, 2) := by decide +kernel
theorem dL_does_353 : decode cL_does 353 = .ok (.iload 11, 2) := by decide +kernel
theorem dL_does_355 : decode cL_does 355 = .ok (.isub, 1) := by decide +kernel
theorem dL_does_356 : decode cL_does 356 = .ok (.if_icmp .ne 19, 3) := by decide +kernel
theorem dL_does_359 : decode cL_does 359 = .ok (.aload_n 0, 1) := by decide +kernel
theorem dL_does_360 : decode cL_does 360 = .ok (.invokevirtual 25, 3) := by decide +kernel
theorem dL_does_363 : decode cL_does 363 = .ok (.iload 10, 2) := by decide +kernel
theorem dL_does_365 : decode cL_does 365 = .ok (.iload 11, 2) := by decide +kernel
theorem dL_does_367 : decode cL_does 367 = .ok (.iadd, 1) := by decide +kernel
theorem dL_does_368 : decode cL_does 368 = .ok (.if_icmp .ne 7, 3) := by decide +kernel
theorem dL_does_371 : decode cL_does 371 = .ok (.iconst 1, 1) := by decide +kernel
theorem dL_does_372 : decode cL_does 372 = .ok (.goto 4, 3) := by decide +kernel
theorem dL_does_375 : decode cL_does 375 = .ok (.iconst 0, 1) := by decide +kernel
theorem dL_does_376 : decode cL_does 376 = .ok (.ireturn, 1) := by decide +kernel
theorem dL_does_377 : decode cL_does 377 = .ok (.iconst 1, 1) := by decide +kernel
theorem dL_does_378 : decode cL_does 378 = .ok (.ireturn, 1) := by decide +kernel
theorem dL_does_379 : decode cL_does 379 = .ok (.aload_n 0, 1) := by decide +kernel
theorem dL_does_380 : decode cL_does 380 = .ok (.invokevirtual 56, 3) := by decide +kernel
theorem dL_does_383 : decode cL_does 383 = .ok (.bipush 6, 2) := by decide +kernel
theorem dL_does_385 : decode cL_does 385 = .ok (.if_icmp .ge 39, 3) := by decide +kernel
theorem dL_does_388 : decode cL_does 388 = .ok (.aload_n 0, 1) := by decide +kernel
theorem dL_does_389 : decode cL_does 389 = .ok (.invokevirtual 56, 3) := by decide +kernel
theorem dL_does_392 : decode cL_does 392 = .ok (.istore 9, 2) := by decide +kernel
theorem dL_does_394 : decode cL_does 394 = .ok (.aload_n 0, 1) := by decide +kernel
theorem dL_does_395 : decode cL_does 395 = .ok (.iload_n 3, 1) := by decide +kernel
theorem dL_does_396 : decode cL_does 396 = .ok (.iload 4, 2) := by decide +kernel
theorem dL_does_398 : decode cL_does 398 = .ok (.invokevirtual 65, 3) := by decide +kernel
theorem dL_does_401 : decode cL_does 401 = .ok (.iload 9, 2) := by decide +kernel
theorem dL_does_403 : decode cL_does 403 = .ok (.iconst 1, 1) := by decide +kernel
theorem dL_does_404 : decode cL_does 404 = .ok (.iadd, 1) := by decide +kernel
theorem dL_does_405 : decode cL_does 405 = .ok (.if_icmp .ne 17, 3) := by decide +kernel
