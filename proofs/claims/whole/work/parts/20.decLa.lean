theorem d_La_law_0 : decode code 0 = .ok (.new 7, 3) := by decide +kernel
theorem d_La_law_3 : decode code 3 = .ok (.dup, 1) := by decide +kernel
theorem d_La_law_4 : decode code 4 = .ok (.invokespecial 9, 3) := by decide +kernel
theorem d_La_law_7 : decode code 7 = .ok (.astore_n 1, 1) := by decide +kernel
theorem d_La_law_8 : decode code 8 = .ok (.new 10, 3) := by decide +kernel
theorem d_La_law_11 : decode code 11 = .ok (.dup, 1) := by decide +kernel
theorem d_La_law_12 : decode code 12 = .ok (.invokespecial 12, 3) := by decide +kernel
theorem d_La_law_15 : decode code 15 = .ok (.astore_n 2, 1) := by decide +kernel
theorem d_La_law_16 : decode code 16 = .ok (.iconst 0, 1) := by decide +kernel
theorem d_La_law_17 : decode code 17 = .ok (.istore_n 3, 1) := by decide +kernel
theorem d_La_law_18 : decode code 18 = .ok (.iload_n 3, 1) := by decide +kernel
theorem d_La_law_19 : decode code 19 = .ok (.aload_n 0, 1) := by decide +kernel
theorem d_La_law_20 : decode code 20 = .ok (.arraylength, 1) := by decide +kernel
theorem d_La_law_21 : decode code 21 = .ok (.bipush 6, 2) := by decide +kernel
theorem d_La_law_23 : decode code 23 = .ok (.isub, 1) := by decide +kernel
theorem d_La_law_24 : decode code 24 = .ok (.if_icmp .gt 868, 3) := by decide +kernel
theorem d_La_law_27 : decode code 27 = .ok (.aload_n 0, 1) := by decide +kernel
theorem d_La_law_28 : decode code 28 = .ok (.iload_n 3, 1) := by decide +kernel
theorem d_La_law_29 : decode code 29 = .ok (.iaload, 1) := by decide +kernel
theorem d_La_law_30 : decode code 30 = .ok (.bipush 31, 2) := by decide +kernel
theorem d_La_law_32 : decode code 32 = .ok (.iand, 1) := by decide +kernel
theorem d_La_law_33 : decode code 33 = .ok (.tableswitch 853 0 23 #[111, 124, 167, 210, 223, 276, 319, 342, 355, 388, 402, 415, 459, 503, 557, 580, 604, 637, 661, 684, 708, 732, 756, 789], 111) := by decide +kernel
theorem d_La_law_144 : decode code 144 = .ok (.aload_n 1, 1) := by decide +kernel
theorem d_La_law_145 : decode code 145 = .ok (.invokevirtual 13, 3) := by decide +kernel
theorem d_La_law_148 : decode code 148 = .ok (.aload_n 2, 1) := by decide +kernel
theorem d_La_law_149 : decode code 149 = .ok (.invokevirtual 17, 3) := by decide +kernel
theorem d_La_law_152 : decode code 152 = .ok (.if_icmp .eq 734, 3) := by decide +kernel
theorem d_La_law_155 : decode code 155 = .ok (.iconst 0, 1) := by decide +kernel
theorem d_La_law_156 : decode code 156 = .ok (.ireturn, 1) := by decide +kernel
theorem d_La_law_157 : decode code 157 = .ok (.aload_n 1, 1) := by decide +kernel
theorem d_La_law_158 : decode code 158 = .ok (.aload_n 0, 1) := by decide +kernel
theorem d_La_law_159 : decode code 159 = .ok (.iload_n 3, 1) := by decide +kernel
theorem d_La_law_160 : decode code 160 = .ok (.iconst 1, 1) := by decide +kernel
theorem d_La_law_161 : decode code 161 = .ok (.iadd, 1) := by decide +kernel
theorem d_La_law_162 : decode code 162 = .ok (.iaload, 1) := by decide +kernel
theorem d_La_law_163 : decode code 163 = .ok (.aload_n 0, 1) := by decide +kernel
theorem d_La_law_164 : decode code 164 = .ok (.iload_n 3, 1) := by decide +kernel
theorem d_La_law_165 : decode code 165 = .ok (.iconst 2, 1) := by decide +kernel
theorem d_La_law_166 : decode code 166 = .ok (.iadd, 1) := by decide +kernel
theorem d_La_law_167 : decode code 167 = .ok (.iaload, 1) := by decide +kernel
theorem d_La_law_168 : decode code 168 = .ok (.aload_n 0, 1) := by decide +kernel
theorem d_La_law_169 : decode code 169 = .ok (.iload_n 3, 1) := by decide +kernel
theorem d_La_law_170 : decode code 170 = .ok (.iconst 3, 1) := by decide +kernel
theorem d_La_law_171 : decode code 171 = .ok (.iadd, 1) := by decide +kernel
theorem d_La_law_172 : decode code 172 = .ok (.iaload, 1) := by decide +kernel
theorem d_La_law_173 : decode code 173 = .ok (.invokevirtual 18, 3) := by decide +kernel
theorem d_La_law_176 : decode code 176 = .ok (.aload_n 2, 1) := by decide +kernel
theorem d_La_law_177 : decode code 177 = .ok (.aload_n 0, 1) := by decide +kernel
theorem d_La_law_178 : decode code 178 = .ok (.iload_n 3, 1) := by decide +kernel
theorem d_La_law_179 : decode code 179 = .ok (.iconst 1, 1) := by decide +kernel
theorem d_La_law_180 : decode code 180 = .ok (.iadd, 1) := by decide +kernel
theorem d_La_law_181 : decode code 181 = .ok (.iaload, 1) := by decide +kernel
theorem d_La_law_182 : decode code 182 = .ok (.aload_n 0, 1) := by decide +kernel
theorem d_La_law_183 : decode code 183 = .ok (.iload_n 3, 1) := by decide +kernel
theorem d_La_law_184 : decode code 184 = .ok (.iconst 2, 1) := by decide +kernel
theorem d_La_law_185 : decode code 185 = .ok (.iadd, 1) := by decide +kernel
theorem d_La_law_186 : decode code 186 = .ok (.iaload, 1) := by decide +kernel
theorem d_La_law_187 : decode code 187 = .ok (.aload_n 0, 1) := by decide +kernel
theorem d_La_law_188 : decode code 188 = .ok (.iload_n 3, 1) := by decide +kernel
theorem d_La_law_189 : decode code 189 = .ok (.iconst 3, 1) := by decide +kernel
theorem d_La_law_190 : decode code 190 = .ok (.iadd, 1) := by decide +kernel
theorem d_La_law_191 : decode code 191 = .ok (.iaload, 1) := by decide +kernel
theorem d_La_law_192 : decode code 192 = .ok (.invokevirtual 22, 3) := by decide +kernel
theorem d_La_law_195 : decode code 195 = .ok (.if_icmp .eq 691, 3) := by decide +kernel
theorem d_La_law_198 : decode code 198 = .ok (.iconst 0, 1) := by decide +kernel
theorem d_La_law_199 : decode code 199 = .ok (.ireturn, 1) := by decide +kernel
theorem d_La_law_200 : decode code 200 = .ok (.aload_n 1, 1) := by decide +kernel
theorem d_La_law_201 : decode code 201 = .ok (.aload_n 0, 1) := by decide +kernel
theorem d_La_law_202 : decode code 202 = .ok (.iload_n 3, 1) := by decide +kernel
theorem d_La_law_203 : decode code 203 = .ok (.iconst 1, 1) := by decide +kernel
theorem d_La_law_204 : decode code 204 = .ok (.iadd, 1) := by decide +kernel
theorem d_La_law_205 : decode code 205 = .ok (.iaload, 1) := by decide +kernel
theorem d_La_law_206 : decode code 206 = .ok (.aload_n 0, 1) := by decide +kernel
theorem d_La_law_207 : decode code 207 = .ok (.iload_n 3, 1) := by decide +kernel
theorem d_La_law_208 : decode code 208 = .ok (.iconst 2, 1) := by decide +kernel
theorem d_La_law_209 : decode code 209 = .ok (.iadd, 1) := by decide +kernel
theorem d_La_law_210 : decode code 210 = .ok (.iaload, 1) := by decide +kernel
theorem d_La_law_211 : decode code 211 = .ok (.aload_n 0, 1) := by decide +kernel
theorem d_La_law_212 : decode code 212 = .ok (.iload_n 3, 1) := by decide +kernel
theorem d_La_law_213 : decode code 213 = .ok (.iconst 3, 1) := by decide +kernel
theorem d_La_law_214 : decode code 214 = .ok (.iadd, 1) := by decide +kernel
theorem d_La_law_215 : decode code 215 = .ok (.iaload, 1) := by decide +kernel
theorem d_La_law_216 : decode code 216 = .ok (.invokevirtual 23, 3) := by decide +kernel
theorem d_La_law_219 : decode code 219 = .ok (.aload_n 2, 1) := by decide +kernel
theorem d_La_law_220 : decode code 220 = .ok (.aload_n 0, 1) := by decide +kernel
theorem d_La_law_221 : decode code 221 = .ok (.iload_n 3, 1) := by decide +kernel
theorem d_La_law_222 : decode code 222 = .ok (.iconst 1, 1) := by decide +kernel
theorem d_La_law_223 : decode code 223 = .ok (.iadd, 1) := by decide +kernel
theorem d_La_law_224 : decode code 224 = .ok (.iaload, 1) := by decide +kernel
theorem d_La_law_225 : decode code 225 = .ok (.aload_n 0, 1) := by decide +kernel
theorem d_La_law_226 : decode code 226 = .ok (.iload_n 3, 1) := by decide +kernel
theorem d_La_law_227 : decode code 227 = .ok (.iconst 2, 1) := by decide +kernel
theorem d_La_law_228 : decode code 228 = .ok (.iadd, 1) := by decide +kernel
theorem d_La_law_229 : decode code 229 = .ok (.iaload, 1) := by decide +kernel
theorem d_La_law_230 : decode code 230 = .ok (.aload_n 0, 1) := by decide +kernel
theorem d_La_law_231 : decode code 231 = .ok (.iload_n 3, 1) := by decide +kernel
theorem d_La_law_232 : decode code 232 = .ok (.iconst 3, 1) := by decide +kernel
theorem d_La_law_233 : decode code 233 = .ok (.iadd, 1) := by decide +kernel
theorem d_La_law_234 : decode code 234 = .ok (.iaload, 1) := by decide +kernel
theorem d_La_law_235 : decode code 235 = .ok (.invokevirtual 26, 3) := by decide +kernel
theorem d_La_law_238 : decode code 238 = .ok (.if_icmp .eq 648, 3) := by decide +kernel
theorem d_La_law_241 : decode code 241 = .ok (.iconst 0, 1) := by decide +kernel
theorem d_La_law_242 : decode code 242 = .ok (.ireturn, 1) := by decide +kernel
theorem d_La_law_243 : decode code 243 = .ok (.aload_n 1, 1) := by decide +kernel
theorem d_La_law_244 : decode code 244 = .ok (.invokevirtual 27, 3) := by decide +kernel
theorem d_La_law_247 : decode code 247 = .ok (.aload_n 2, 1) := by decide +kernel
theorem d_La_law_248 : decode code 248 = .ok (.invokevirtual 30, 3) := by decide +kernel
theorem d_La_law_251 : decode code 251 = .ok (.if_icmp .eq 635, 3) := by decide +kernel
theorem d_La_law_254 : decode code 254 = .ok (.iconst 0, 1) := by decide +kernel
theorem d_La_law_255 : decode code 255 = .ok (.ireturn, 1) := by decide +kernel
theorem d_La_law_256 : decode code 256 = .ok (.aload_n 1, 1) := by decide +kernel
theorem d_La_law_257 : decode code 257 = .ok (.aload_n 0, 1) := by decide +kernel
theorem d_La_law_258 : decode code 258 = .ok (.iload_n 3, 1) := by decide +kernel
theorem d_La_law_259 : decode code 259 = .ok (.iconst 1, 1) := by decide +kernel
theorem d_La_law_260 : decode code 260 = .ok (.iadd, 1) := by decide +kernel
theorem d_La_law_261 : decode code 261 = .ok (.iaload, 1) := by decide +kernel
theorem d_La_law_262 : decode code 262 = .ok (.aload_n 0, 1) := by decide +kernel
theorem d_La_law_263 : decode code 263 = .ok (.iload_n 3, 1) := by decide +kernel
theorem d_La_law_264 : decode code 264 = .ok (.iconst 2, 1) := by decide +kernel
theorem d_La_law_265 : decode code 265 = .ok (.iadd, 1) := by decide +kernel
theorem d_La_law_266 : decode code 266 = .ok (.iaload, 1) := by decide +kernel
theorem d_La_law_267 : decode code 267 = .ok (.aload_n 0, 1) := by decide +kernel
theorem d_La_law_268 : decode code 268 = .ok (.iload_n 3, 1) := by decide +kernel
theorem d_La_law_269 : decode code 269 = .ok (.iconst 3, 1) := by decide +kernel
theorem d_La_law_270 : decode code 270 = .ok (.iadd, 1) := by decide +kernel
theorem d_La_law_271 : decode code 271 = .ok (.iaload, 1) := by decide +kernel
theorem d_La_law_272 : decode code 272 = .ok (.aload_n 0, 1) := by decide +kernel
theorem d_La_law_273 : decode code 273 = .ok (.iload_n 3, 1) := by decide +kernel
theorem d_La_law_274 : decode code 274 = .ok (.iconst 4, 1) := by decide +kernel
theorem d_La_law_275 : decode code 275 = .ok (.iadd, 1) := by decide +kernel
theorem d_La_law_276 : decode code 276 = .ok (.iaload, 1) := by decide +kernel
theorem d_La_law_277 : decode code 277 = .ok (.invokevirtual 31, 3) := by decide +kernel
theorem d_La_law_280 : decode code 280 = .ok (.aload_n 2, 1) := by decide +kernel
theorem d_La_law_281 : decode code 281 = .ok (.aload_n 0, 1) := by decide +kernel
theorem d_La_law_282 : decode code 282 = .ok (.iload_n 3, 1) := by decide +kernel
theorem d_La_law_283 : decode code 283 = .ok (.iconst 1, 1) := by decide +kernel
theorem d_La_law_284 : decode code 284 = .ok (.iadd, 1) := by decide +kernel
theorem d_La_law_285 : decode code 285 = .ok (.iaload, 1) := by decide +kernel
theorem d_La_law_286 : decode code 286 = .ok (.aload_n 0, 1) := by decide +kernel
theorem d_La_law_287 : decode code 287 = .ok (.iload_n 3, 1) := by decide +kernel
theorem d_La_law_288 : decode code 288 = .ok (.iconst 2, 1) := by decide +kernel
theorem d_La_law_289 : decode code 289 = .ok (.iadd, 1) := by decide +kernel
theorem d_La_law_290 : decode code 290 = .ok (.iaload, 1) := by decide +kernel
theorem d_La_law_291 : decode code 291 = .ok (.aload_n 0, 1) := by decide +kernel
theorem d_La_law_292 : decode code 292 = .ok (.iload_n 3, 1) := by decide +kernel
theorem d_La_law_293 : decode code 293 = .ok (.iconst 3, 1) := by decide +kernel
theorem d_La_law_294 : decode code 294 = .ok (.iadd, 1) := by decide +kernel
theorem d_La_law_295 : decode code 295 = .ok (.iaload, 1) := by decide +kernel
theorem d_La_law_296 : decode code 296 = .ok (.aload_n 0, 1) := by decide +kernel
theorem d_La_law_297 : decode code 297 = .ok (.iload_n 3, 1) := by decide +kernel
theorem d_La_law_298 : decode code 298 = .ok (.iconst 4, 1) := by decide +kernel
theorem d_La_law_299 : decode code 299 = .ok (.iadd, 1) := by decide +kernel
theorem d_La_law_300 : decode code 300 = .ok (.iaload, 1) := by decide +kernel
theorem d_La_law_301 : decode code 301 = .ok (.invokevirtual 35, 3) := by decide +kernel
theorem d_La_law_304 : decode code 304 = .ok (.if_icmp .eq 582, 3) := by decide +kernel
theorem d_La_law_307 : decode code 307 = .ok (.iconst 0, 1) := by decide +kernel
theorem d_La_law_308 : decode code 308 = .ok (.ireturn, 1) := by decide +kernel
theorem d_La_law_309 : decode code 309 = .ok (.aload_n 1, 1) := by decide +kernel
theorem d_La_law_310 : decode code 310 = .ok (.aload_n 0, 1) := by decide +kernel
theorem d_La_law_311 : decode code 311 = .ok (.iload_n 3, 1) := by decide +kernel
theorem d_La_law_312 : decode code 312 = .ok (.iconst 1, 1) := by decide +kernel
theorem d_La_law_313 : decode code 313 = .ok (.iadd, 1) := by decide +kernel
theorem d_La_law_314 : decode code 314 = .ok (.iaload, 1) := by decide +kernel
theorem d_La_law_315 : decode code 315 = .ok (.aload_n 0, 1) := by decide +kernel
theorem d_La_law_316 : decode code 316 = .ok (.iload_n 3, 1) := by decide +kernel
theorem d_La_law_317 : decode code 317 = .ok (.iconst 2, 1) := by decide +kernel
theorem d_La_law_318 : decode code 318 = .ok (.iadd, 1) := by decide +kernel
theorem d_La_law_319 : decode code 319 = .ok (.iaload, 1) := by decide +kernel
theorem d_La_law_320 : decode code 320 = .ok (.aload_n 0, 1) := by decide +kernel
theorem d_La_law_321 : decode code 321 = .ok (.iload_n 3, 1) := by decide +kernel
theorem d_La_law_322 : decode code 322 = .ok (.iconst 3, 1) := by decide +kernel
theorem d_La_law_323 : decode code 323 = .ok (.iadd, 1) := by decide +kernel
theorem d_La_law_324 : decode code 324 = .ok (.iaload, 1) := by decide +kernel
theorem d_La_law_325 : decode code 325 = .ok (.invokevirtual 36, 3) := by decide +kernel
theorem d_La_law_328 : decode code 328 = .ok (.aload_n 2, 1) := by decide +kernel
theorem d_La_law_329 : decode code 329 = .ok (.aload_n 0, 1) := by decide +kernel
theorem d_La_law_330 : decode code 330 = .ok (.iload_n 3, 1) := by decide +kernel
theorem d_La_law_331 : decode code 331 = .ok (.iconst 1, 1) := by decide +kernel
theorem d_La_law_332 : decode code 332 = .ok (.iadd, 1) := by decide +kernel
theorem d_La_law_333 : decode code 333 = .ok (.iaload, 1) := by decide +kernel
theorem d_La_law_334 : decode code 334 = .ok (.aload_n 0, 1) := by decide +kernel
theorem d_La_law_335 : decode code 335 = .ok (.iload_n 3, 1) := by decide +kernel
theorem d_La_law_336 : decode code 336 = .ok (.iconst 2, 1) := by decide +kernel
theorem d_La_law_337 : decode code 337 = .ok (.iadd, 1) := by decide +kernel
theorem d_La_law_338 : decode code 338 = .ok (.iaload, 1) := by decide +kernel
theorem d_La_law_339 : decode code 339 = .ok (.aload_n 0, 1) := by decide +kernel
theorem d_La_law_340 : decode code 340 = .ok (.iload_n 3, 1) := by decide +kernel
theorem d_La_law_341 : decode code 341 = .ok (.iconst 3, 1) := by decide +kernel
theorem d_La_law_342 : decode code 342 = .ok (.iadd, 1) := by decide +kernel
theorem d_La_law_343 : decode code 343 = .ok (.iaload, 1) := by decide +kernel
theorem d_La_law_344 : decode code 344 = .ok (.invokevirtual 39, 3) := by decide +kernel
theorem d_La_law_347 : decode code 347 = .ok (.if_icmp .eq 539, 3) := by decide +kernel
theorem d_La_law_350 : decode code 350 = .ok (.iconst 0, 1) := by decide +kernel
theorem d_La_law_351 : decode code 351 = .ok (.ireturn, 1) := by decide +kernel
theorem d_La_law_352 : decode code 352 = .ok (.aload_n 1, 1) := by decide +kernel
theorem d_La_law_353 : decode code 353 = .ok (.aload_n 0, 1) := by decide +kernel
theorem d_La_law_354 : decode code 354 = .ok (.iload_n 3, 1) := by decide +kernel
theorem d_La_law_355 : decode code 355 = .ok (.iconst 1, 1) := by decide +kernel
theorem d_La_law_356 : decode code 356 = .ok (.iadd, 1) := by decide +kernel
theorem d_La_law_357 : decode code 357 = .ok (.iaload, 1) := by decide +kernel
theorem d_La_law_358 : decode code 358 = .ok (.invokevirtual 40, 3) := by decide +kernel
theorem d_La_law_361 : decode code 361 = .ok (.aload_n 2, 1) := by decide +kernel
theorem d_La_law_362 : decode code 362 = .ok (.aload_n 0, 1) := by decide +kernel
theorem d_La_law_363 : decode code 363 = .ok (.iload_n 3, 1) := by decide +kernel
theorem d_La_law_364 : decode code 364 = .ok (.iconst 1, 1) := by decide +kernel
theorem d_La_law_365 : decode code 365 = .ok (.iadd, 1) := by decide +kernel
theorem d_La_law_366 : decode code 366 = .ok (.iaload, 1) := by decide +kernel
theorem d_La_law_367 : decode code 367 = .ok (.invokevirtual 44, 3) := by decide +kernel
theorem d_La_law_370 : decode code 370 = .ok (.if_icmp .eq 516, 3) := by decide +kernel
theorem d_La_law_373 : decode code 373 = .ok (.iconst 0, 1) := by decide +kernel
theorem d_La_law_374 : decode code 374 = .ok (.ireturn, 1) := by decide +kernel
theorem d_La_law_375 : decode code 375 = .ok (.aload_n 1, 1) := by decide +kernel
theorem d_La_law_376 : decode code 376 = .ok (.invokevirtual 45, 3) := by decide +kernel
theorem d_La_law_379 : decode code 379 = .ok (.aload_n 2, 1) := by decide +kernel
theorem d_La_law_380 : decode code 380 = .ok (.invokevirtual 48, 3) := by decide +kernel
theorem d_La_law_383 : decode code 383 = .ok (.if_icmp .eq 503, 3) := by decide +kernel
theorem d_La_law_386 : decode code 386 = .ok (.iconst 0, 1) := by decide +kernel
theorem d_La_law_387 : decode code 387 = .ok (.ireturn, 1) := by decide +kernel
theorem d_La_law_388 : decode code 388 = .ok (.aload_n 1, 1) := by decide +kernel
theorem d_La_law_389 : decode code 389 = .ok (.aload_n 0, 1) := by decide +kernel
theorem d_La_law_390 : decode code 390 = .ok (.iload_n 3, 1) := by decide +kernel
theorem d_La_law_391 : decode code 391 = .ok (.iconst 1, 1) := by decide +kernel
theorem d_La_law_392 : decode code 392 = .ok (.iadd, 1) := by decide +kernel
theorem d_La_law_393 : decode code 393 = .ok (.iaload, 1) := by decide +kernel
theorem d_La_law_394 : decode code 394 = .ok (.aload_n 0, 1) := by decide +kernel
theorem d_La_law_395 : decode code 395 = .ok (.iload_n 3, 1) := by decide +kernel
theorem d_La_law_396 : decode code 396 = .ok (.iconst 2, 1) := by decide +kernel
theorem d_La_law_397 : decode code 397 = .ok (.iadd, 1) := by decide +kernel
theorem d_La_law_398 : decode code 398 = .ok (.iaload, 1) := by decide +kernel
theorem d_La_law_399 : decode code 399 = .ok (.invokevirtual 49, 3) := by decide +kernel
theorem d_La_law_402 : decode code 402 = .ok (.aload_n 2, 1) := by decide +kernel
theorem d_La_law_403 : decode code 403 = .ok (.aload_n 0, 1) := by decide +kernel
theorem d_La_law_404 : decode code 404 = .ok (.iload_n 3, 1) := by decide +kernel
theorem d_La_law_405 : decode code 405 = .ok (.iconst 1, 1) := by decide +kernel
theorem d_La_law_406 : decode code 406 = .ok (.iadd, 1) := by decide +kernel
theorem d_La_law_407 : decode code 407 = .ok (.iaload, 1) := by decide +kernel
theorem d_La_law_408 : decode code 408 = .ok (.aload_n 0, 1) := by decide +kernel
theorem d_La_law_409 : decode code 409 = .ok (.iload_n 3, 1) := by decide +kernel
theorem d_La_law_410 : decode code 410 = .ok (.iconst 2, 1) := by decide +kernel
theorem d_La_law_411 : decode code 411 = .ok (.iadd, 1) := by decide +kernel
theorem d_La_law_412 : decode code 412 = .ok (.iaload, 1) := by decide +kernel
theorem d_La_law_413 : decode code 413 = .ok (.invokevirtual 53, 3) := by decide +kernel
theorem d_La_law_416 : decode code 416 = .ok (.if_icmp .eq 470, 3) := by decide +kernel
theorem d_La_law_419 : decode code 419 = .ok (.iconst 0, 1) := by decide +kernel
theorem d_La_law_420 : decode code 420 = .ok (.ireturn, 1) := by decide +kernel
theorem d_La_law_421 : decode code 421 = .ok (.aload_n 1, 1) := by decide +kernel
theorem d_La_law_422 : decode code 422 = .ok (.invokevirtual 54, 3) := by decide +kernel
theorem d_La_law_425 : decode code 425 = .ok (.aload_n 2, 1) := by decide +kernel
theorem d_La_law_426 : decode code 426 = .ok (.invokevirtual 58, 3) := by decide +kernel
theorem d_La_law_429 : decode code 429 = .ok (.lcmp, 1) := by decide +kernel
theorem d_La_law_430 : decode code 430 = .ok (.ifCond .eq 456, 3) := by decide +kernel
theorem d_La_law_433 : decode code 433 = .ok (.iconst 0, 1) := by decide +kernel
theorem d_La_law_434 : decode code 434 = .ok (.ireturn, 1) := by decide +kernel
theorem d_La_law_435 : decode code 435 = .ok (.aload_n 1, 1) := by decide +kernel
theorem d_La_law_436 : decode code 436 = .ok (.invokevirtual 59, 3) := by decide +kernel
theorem d_La_law_439 : decode code 439 = .ok (.aload_n 2, 1) := by decide +kernel
theorem d_La_law_440 : decode code 440 = .ok (.invokevirtual 62, 3) := by decide +kernel
theorem d_La_law_443 : decode code 443 = .ok (.if_icmp .eq 443, 3) := by decide +kernel
theorem d_La_law_446 : decode code 446 = .ok (.iconst 0, 1) := by decide +kernel
theorem d_La_law_447 : decode code 447 = .ok (.ireturn, 1) := by decide +kernel
theorem d_La_law_448 : decode code 448 = .ok (.aload_n 1, 1) := by decide +kernel
theorem d_La_law_449 : decode code 449 = .ok (.aload_n 0, 1) := by decide +kernel
theorem d_La_law_450 : decode code 450 = .ok (.iload_n 3, 1) := by decide +kernel
theorem d_La_law_451 : decode code 451 = .ok (.iconst 1, 1) := by decide +kernel
theorem d_La_law_452 : decode code 452 = .ok (.iadd, 1) := by decide +kernel
theorem d_La_law_453 : decode code 453 = .ok (.iaload, 1) := by decide +kernel
theorem d_La_law_454 : decode code 454 = .ok (.aload_n 0, 1) := by decide +kernel
theorem d_La_law_455 : decode code 455 = .ok (.iload_n 3, 1) := by decide +kernel
theorem d_La_law_456 : decode code 456 = .ok (.iconst 2, 1) := by decide +kernel
theorem d_La_law_457 : decode code 457 = .ok (.iadd, 1) := by decide +kernel
theorem d_La_law_458 : decode code 458 = .ok (.iaload, 1) := by decide +kernel
theorem d_La_law_459 : decode code 459 = .ok (.aload_n 0, 1) := by decide +kernel
theorem d_La_law_460 : decode code 460 = .ok (.iload_n 3, 1) := by decide +kernel
theorem d_La_law_461 : decode code 461 = .ok (.iconst 3, 1) := by decide +kernel
theorem d_La_law_462 : decode code 462 = .ok (.iadd, 1) := by decide +kernel
theorem d_La_law_463 : decode code 463 = .ok (.iaload, 1) := by decide +kernel
theorem d_La_law_464 : decode code 464 = .ok (.invokevirtual 63, 3) := by decide +kernel
theorem d_La_law_467 : decode code 467 = .ok (.aload_n 2, 1) := by decide +kernel
theorem d_La_law_468 : decode code 468 = .ok (.aload_n 0, 1) := by decide +kernel
theorem d_La_law_469 : decode code 469 = .ok (.iload_n 3, 1) := by decide +kernel
theorem d_La_law_470 : decode code 470 = .ok (.iconst 1, 1) := by decide +kernel
theorem d_La_law_471 : decode code 471 = .ok (.iadd, 1) := by decide +kernel
theorem d_La_law_472 : decode code 472 = .ok (.iaload, 1) := by decide +kernel
theorem d_La_law_473 : decode code 473 = .ok (.aload_n 0, 1) := by decide +kernel
theorem d_La_law_474 : decode code 474 = .ok (.iload_n 3, 1) := by decide +kernel
theorem d_La_law_475 : decode code 475 = .ok (.iconst 2, 1) := by decide +kernel
theorem d_La_law_476 : decode code 476 = .ok (.iadd, 1) := by decide +kernel
theorem d_La_law_477 : decode code 477 = .ok (.iaload, 1) := by decide +kernel
theorem d_La_law_478 : decode code 478 = .ok (.aload_n 0, 1) := by decide +kernel
theorem d_La_law_479 : decode code 479 = .ok (.iload_n 3, 1) := by decide +kernel
theorem d_La_law_480 : decode code 480 = .ok (.iconst 3, 1) := by decide +kernel
theorem d_La_law_481 : decode code 481 = .ok (.iadd, 1) := by decide +kernel
theorem d_La_law_482 : decode code 482 = .ok (.iaload, 1) := by decide +kernel
theorem d_La_law_483 : decode code 483 = .ok (.invokevirtual 67, 3) := by decide +kernel
theorem d_La_law_486 : decode code 486 = .ok (.lcmp, 1) := by decide +kernel
theorem d_La_law_487 : decode code 487 = .ok (.ifCond .eq 399, 3) := by decide +kernel
theorem d_La_law_490 : decode code 490 = .ok (.iconst 0, 1) := by decide +kernel
theorem d_La_law_491 : decode code 491 = .ok (.ireturn, 1) := by decide +kernel
theorem d_La_law_492 : decode code 492 = .ok (.aload_n 1, 1) := by decide +kernel
theorem d_La_law_493 : decode code 493 = .ok (.aload_n 0, 1) := by decide +kernel
theorem d_La_law_494 : decode code 494 = .ok (.iload_n 3, 1) := by decide +kernel
theorem d_La_law_495 : decode code 495 = .ok (.iconst 1, 1) := by decide +kernel
theorem d_La_law_496 : decode code 496 = .ok (.iadd, 1) := by decide +kernel
theorem d_La_law_497 : decode code 497 = .ok (.iaload, 1) := by decide +kernel
theorem d_La_law_498 : decode code 498 = .ok (.aload_n 0, 1) := by decide +kernel
theorem d_La_law_499 : decode code 499 = .ok (.iload_n 3, 1) := by decide +kernel
theorem d_La_law_500 : decode code 500 = .ok (.iconst 2, 1) := by decide +kernel
theorem d_La_law_501 : decode code 501 = .ok (.iadd, 1) := by decide +kernel
theorem d_La_law_502 : decode code 502 = .ok (.iaload, 1) := by decide +kernel
theorem d_La_law_503 : decode code 503 = .ok (.aload_n 0, 1) := by decide +kernel
theorem d_La_law_504 : decode code 504 = .ok (.iload_n 3, 1) := by decide +kernel
theorem d_La_law_505 : decode code 505 = .ok (.iconst 3, 1) := by decide +kernel
theorem d_La_law_506 : decode code 506 = .ok (.iadd, 1) := by decide +kernel
theorem d_La_law_507 : decode code 507 = .ok (.iaload, 1) := by decide +kernel
theorem d_La_law_508 : decode code 508 = .ok (.invokevirtual 68, 3) := by decide +kernel
theorem d_La_law_511 : decode code 511 = .ok (.aload_n 2, 1) := by decide +kernel
theorem d_La_law_512 : decode code 512 = .ok (.aload_n 0, 1) := by decide +kernel
theorem d_La_law_513 : decode code 513 = .ok (.iload_n 3, 1) := by decide +kernel
theorem d_La_law_514 : decode code 514 = .ok (.iconst 1, 1) := by decide +kernel
theorem d_La_law_515 : decode code 515 = .ok (.iadd, 1) := by decide +kernel
theorem d_La_law_516 : decode code 516 = .ok (.iaload, 1) := by decide +kernel
theorem d_La_law_517 : decode code 517 = .ok (.aload_n 0, 1) := by decide +kernel
theorem d_La_law_518 : decode code 518 = .ok (.iload_n 3, 1) := by decide +kernel
theorem d_La_law_519 : decode code 519 = .ok (.iconst 2, 1) := by decide +kernel
theorem d_La_law_520 : decode code 520 = .ok (.iadd, 1) := by decide +kernel
theorem d_La_law_521 : decode code 521 = .ok (.iaload, 1) := by decide +kernel
theorem d_La_law_522 : decode code 522 = .ok (.aload_n 0, 1) := by decide +kernel
theorem d_La_law_523 : decode code 523 = .ok (.iload_n 3, 1) := by decide +kernel
theorem d_La_law_524 : decode code 524 = .ok (.iconst 3, 1) := by decide +kernel
theorem d_La_law_525 : decode code 525 = .ok (.iadd, 1) := by decide +kernel
theorem d_La_law_526 : decode code 526 = .ok (.iaload, 1) := by decide +kernel
theorem d_La_law_527 : decode code 527 = .ok (.invokevirtual 71, 3) := by decide +kernel
theorem d_La_law_530 : decode code 530 = .ok (.lcmp, 1) := by decide +kernel
theorem d_La_law_531 : decode code 531 = .ok (.ifCond .eq 355, 3) := by decide +kernel
theorem d_La_law_534 : decode code 534 = .ok (.iconst 0, 1) := by decide +kernel
theorem d_La_law_535 : decode code 535 = .ok (.ireturn, 1) := by decide +kernel
theorem d_La_law_536 : decode code 536 = .ok (.aload_n 1, 1) := by decide +kernel
theorem d_La_law_537 : decode code 537 = .ok (.aload_n 0, 1) := by decide +kernel
theorem d_La_law_538 : decode code 538 = .ok (.iload_n 3, 1) := by decide +kernel
theorem d_La_law_539 : decode code 539 = .ok (.iconst 1, 1) := by decide +kernel
theorem d_La_law_540 : decode code 540 = .ok (.iadd, 1) := by decide +kernel
theorem d_La_law_541 : decode code 541 = .ok (.iaload, 1) := by decide +kernel
theorem d_La_law_542 : decode code 542 = .ok (.aload_n 0, 1) := by decide +kernel
theorem d_La_law_543 : decode code 543 = .ok (.iload_n 3, 1) := by decide +kernel
theorem d_La_law_544 : decode code 544 = .ok (.iconst 2, 1) := by decide +kernel
theorem d_La_law_545 : decode code 545 = .ok (.iadd, 1) := by decide +kernel
theorem d_La_law_546 : decode code 546 = .ok (.iaload, 1) := by decide +kernel
theorem d_La_law_547 : decode code 547 = .ok (.aload_n 0, 1) := by decide +kernel
theorem d_La_law_548 : decode code 548 = .ok (.iload_n 3, 1) := by decide +kernel
theorem d_La_law_549 : decode code 549 = .ok (.iconst 3, 1) := by decide +kernel
theorem d_La_law_550 : decode code 550 = .ok (.iadd, 1) := by decide +kernel
theorem d_La_law_551 : decode code 551 = .ok (.iaload, 1) := by decide +kernel
theorem d_La_law_552 : decode code 552 = .ok (.aload_n 0, 1) := by decide +kernel
theorem d_La_law_553 : decode code 553 = .ok (.iload_n 3, 1) := by decide +kernel
theorem d_La_law_554 : decode code 554 = .ok (.iconst 4, 1) := by decide +kernel
theorem d_La_law_555 : decode code 555 = .ok (.iadd, 1) := by decide +kernel
theorem d_La_law_556 : decode code 556 = .ok (.iaload, 1) := by decide +kernel
theorem d_La_law_557 : decode code 557 = .ok (.invokevirtual 72, 3) := by decide +kernel
theorem d_La_law_560 : decode code 560 = .ok (.aload_n 2, 1) := by decide +kernel
theorem d_La_law_561 : decode code 561 = .ok (.aload_n 0, 1) := by decide +kernel
theorem d_La_law_562 : decode code 562 = .ok (.iload_n 3, 1) := by decide +kernel
theorem d_La_law_563 : decode code 563 = .ok (.iconst 1, 1) := by decide +kernel
theorem d_La_law_564 : decode code 564 = .ok (.iadd, 1) := by decide +kernel
theorem d_La_law_565 : decode code 565 = .ok (.iaload, 1) := by decide +kernel
theorem d_La_law_566 : decode code 566 = .ok (.aload_n 0, 1) := by decide +kernel
theorem d_La_law_567 : decode code 567 = .ok (.iload_n 3, 1) := by decide +kernel
theorem d_La_law_568 : decode code 568 = .ok (.iconst 2, 1) := by decide +kernel
theorem d_La_law_569 : decode code 569 = .ok (.iadd, 1) := by decide +kernel
theorem d_La_law_570 : decode code 570 = .ok (.iaload, 1) := by decide +kernel
theorem d_La_law_571 : decode code 571 = .ok (.aload_n 0, 1) := by decide +kernel
theorem d_La_law_572 : decode code 572 = .ok (.iload_n 3, 1) := by decide +kernel
theorem d_La_law_573 : decode code 573 = .ok (.iconst 3, 1) := by decide +kernel
theorem d_La_law_574 : decode code 574 = .ok (.iadd, 1) := by decide +kernel
theorem d_La_law_575 : decode code 575 = .ok (.iaload, 1) := by decide +kernel
theorem d_La_law_576 : decode code 576 = .ok (.aload_n 0, 1) := by decide +kernel
theorem d_La_law_577 : decode code 577 = .ok (.iload_n 3, 1) := by decide +kernel
theorem d_La_law_578 : decode code 578 = .ok (.iconst 4, 1) := by decide +kernel
theorem d_La_law_579 : decode code 579 = .ok (.iadd, 1) := by decide +kernel
theorem d_La_law_580 : decode code 580 = .ok (.iaload, 1) := by decide +kernel
theorem d_La_law_581 : decode code 581 = .ok (.invokevirtual 76, 3) := by decide +kernel
theorem d_La_law_584 : decode code 584 = .ok (.lcmp, 1) := by decide +kernel
theorem d_La_law_585 : decode code 585 = .ok (.ifCond .eq 301, 3) := by decide +kernel
theorem d_La_law_588 : decode code 588 = .ok (.iconst 0, 1) := by decide +kernel
theorem d_La_law_589 : decode code 589 = .ok (.ireturn, 1) := by decide +kernel
theorem d_La_law_590 : decode code 590 = .ok (.aload_n 1, 1) := by decide +kernel
theorem d_La_law_591 : decode code 591 = .ok (.aload_n 0, 1) := by decide +kernel
theorem d_La_law_592 : decode code 592 = .ok (.iload_n 3, 1) := by decide +kernel
theorem d_La_law_593 : decode code 593 = .ok (.iconst 1, 1) := by decide +kernel
theorem d_La_law_594 : decode code 594 = .ok (.iadd, 1) := by decide +kernel
theorem d_La_law_595 : decode code 595 = .ok (.iaload, 1) := by decide +kernel
theorem d_La_law_596 : decode code 596 = .ok (.invokevirtual 77, 3) := by decide +kernel
theorem d_La_law_599 : decode code 599 = .ok (.aload_n 2, 1) := by decide +kernel
theorem d_La_law_600 : decode code 600 = .ok (.aload_n 0, 1) := by decide +kernel
theorem d_La_law_601 : decode code 601 = .ok (.iload_n 3, 1) := by decide +kernel
theorem d_La_law_602 : decode code 602 = .ok (.iconst 1, 1) := by decide +kernel
theorem d_La_law_603 : decode code 603 = .ok (.iadd, 1) := by decide +kernel
theorem d_La_law_604 : decode code 604 = .ok (.iaload, 1) := by decide +kernel
theorem d_La_law_605 : decode code 605 = .ok (.invokevirtual 80, 3) := by decide +kernel
theorem d_La_law_608 : decode code 608 = .ok (.if_icmp .eq 278, 3) := by decide +kernel
theorem d_La_law_611 : decode code 611 = .ok (.iconst 0, 1) := by decide +kernel
theorem d_La_law_612 : decode code 612 = .ok (.ireturn, 1) := by decide +kernel
theorem d_La_law_613 : decode code 613 = .ok (.aload_n 1, 1) := by decide +kernel
theorem d_La_law_614 : decode code 614 = .ok (.aload_n 0, 1) := by decide +kernel
theorem d_La_law_615 : decode code 615 = .ok (.iload_n 3, 1) := by decide +kernel
theorem d_La_law_616 : decode code 616 = .ok (.iconst 1, 1) := by decide +kernel
theorem d_La_law_617 : decode code 617 = .ok (.iadd, 1) := by decide +kernel
theorem d_La_law_618 : decode code 618 = .ok (.iaload, 1) := by decide +kernel
theorem d_La_law_619 : decode code 619 = .ok (.invokevirtual 81, 3) := by decide +kernel
theorem d_La_law_622 : decode code 622 = .ok (.aload_n 2, 1) := by decide +kernel
theorem d_La_law_623 : decode code 623 = .ok (.aload_n 0, 1) := by decide +kernel
theorem d_La_law_624 : decode code 624 = .ok (.iload_n 3, 1) := by decide +kernel
theorem d_La_law_625 : decode code 625 = .ok (.iconst 1, 1) := by decide +kernel
theorem d_La_law_626 : decode code 626 = .ok (.iadd, 1) := by decide +kernel
theorem d_La_law_627 : decode code 627 = .ok (.iaload, 1) := by decide +kernel
theorem d_La_law_628 : decode code 628 = .ok (.invokevirtual 85, 3) := by decide +kernel
theorem d_La_law_631 : decode code 631 = .ok (.lcmp, 1) := by decide +kernel
theorem d_La_law_632 : decode code 632 = .ok (.ifCond .eq 254, 3) := by decide +kernel
theorem d_La_law_635 : decode code 635 = .ok (.iconst 0, 1) := by decide +kernel
theorem d_La_law_636 : decode code 636 = .ok (.ireturn, 1) := by decide +kernel
theorem d_La_law_637 : decode code 637 = .ok (.aload_n 1, 1) := by decide +kernel
theorem d_La_law_638 : decode code 638 = .ok (.aload_n 0, 1) := by decide +kernel
theorem d_La_law_639 : decode code 639 = .ok (.iload_n 3, 1) := by decide +kernel
theorem d_La_law_640 : decode code 640 = .ok (.iconst 1, 1) := by decide +kernel
theorem d_La_law_641 : decode code 641 = .ok (.iadd, 1) := by decide +kernel
theorem d_La_law_642 : decode code 642 = .ok (.iaload, 1) := by decide +kernel
theorem d_La_law_643 : decode code 643 = .ok (.aload_n 0, 1) := by decide +kernel
theorem d_La_law_644 : decode code 644 = .ok (.iload_n 3, 1) := by decide +kernel
theorem d_La_law_645 : decode code 645 = .ok (.iconst 2, 1) := by decide +kernel
theorem d_La_law_646 : decode code 646 = .ok (.iadd, 1) := by decide +kernel
theorem d_La_law_647 : decode code 647 = .ok (.iaload, 1) := by decide +kernel
theorem d_La_law_648 : decode code 648 = .ok (.invokevirtual 86, 3) := by decide +kernel
theorem d_La_law_651 : decode code 651 = .ok (.aload_n 2, 1) := by decide +kernel
theorem d_La_law_652 : decode code 652 = .ok (.aload_n 0, 1) := by decide +kernel
theorem d_La_law_653 : decode code 653 = .ok (.iload_n 3, 1) := by decide +kernel
theorem d_La_law_654 : decode code 654 = .ok (.iconst 1, 1) := by decide +kernel
theorem d_La_law_655 : decode code 655 = .ok (.iadd, 1) := by decide +kernel
theorem d_La_law_656 : decode code 656 = .ok (.iaload, 1) := by decide +kernel
theorem d_La_law_657 : decode code 657 = .ok (.aload_n 0, 1) := by decide +kernel
theorem d_La_law_658 : decode code 658 = .ok (.iload_n 3, 1) := by decide +kernel
theorem d_La_law_659 : decode code 659 = .ok (.iconst 2, 1) := by decide +kernel
theorem d_La_law_660 : decode code 660 = .ok (.iadd, 1) := by decide +kernel
theorem d_La_law_661 : decode code 661 = .ok (.iaload, 1) := by decide +kernel
theorem d_La_law_662 : decode code 662 = .ok (.invokevirtual 89, 3) := by decide +kernel
theorem d_La_law_665 : decode code 665 = .ok (.if_icmp .eq 221, 3) := by decide +kernel
theorem d_La_law_668 : decode code 668 = .ok (.iconst 0, 1) := by decide +kernel
theorem d_La_law_669 : decode code 669 = .ok (.ireturn, 1) := by decide +kernel
theorem d_La_law_670 : decode code 670 = .ok (.aload_n 1, 1) := by decide +kernel
theorem d_La_law_671 : decode code 671 = .ok (.aload_n 0, 1) := by decide +kernel
theorem d_La_law_672 : decode code 672 = .ok (.iload_n 3, 1) := by decide +kernel
theorem d_La_law_673 : decode code 673 = .ok (.iconst 1, 1) := by decide +kernel
theorem d_La_law_674 : decode code 674 = .ok (.iadd, 1) := by decide +kernel
theorem d_La_law_675 : decode code 675 = .ok (.iaload, 1) := by decide +kernel
theorem d_La_law_676 : decode code 676 = .ok (.invokevirtual 90, 3) := by decide +kernel
theorem d_La_law_679 : decode code 679 = .ok (.aload_n 2, 1) := by decide +kernel
theorem d_La_law_680 : decode code 680 = .ok (.aload_n 0, 1) := by decide +kernel
theorem d_La_law_681 : decode code 681 = .ok (.iload_n 3, 1) := by decide +kernel
theorem d_La_law_682 : decode code 682 = .ok (.iconst 1, 1) := by decide +kernel
theorem d_La_law_683 : decode code 683 = .ok (.iadd, 1) := by decide +kernel
theorem d_La_law_684 : decode code 684 = .ok (.iaload, 1) := by decide +kernel
theorem d_La_law_685 : decode code 685 = .ok (.invokevirtual 93, 3) := by decide +kernel
theorem d_La_law_688 : decode code 688 = .ok (.lcmp, 1) := by decide +kernel
theorem d_La_law_689 : decode code 689 = .ok (.ifCond .eq 197, 3) := by decide +kernel
theorem d_La_law_692 : decode code 692 = .ok (.iconst 0, 1) := by decide +kernel
theorem d_La_law_693 : decode code 693 = .ok (.ireturn, 1) := by decide +kernel
theorem d_La_law_694 : decode code 694 = .ok (.aload_n 1, 1) := by decide +kernel
theorem d_La_law_695 : decode code 695 = .ok (.aload_n 0, 1) := by decide +kernel
theorem d_La_law_696 : decode code 696 = .ok (.iload_n 3, 1) := by decide +kernel
theorem d_La_law_697 : decode code 697 = .ok (.iconst 1, 1) := by decide +kernel
theorem d_La_law_698 : decode code 698 = .ok (.iadd, 1) := by decide +kernel
theorem d_La_law_699 : decode code 699 = .ok (.iaload, 1) := by decide +kernel
theorem d_La_law_700 : decode code 700 = .ok (.invokevirtual 94, 3) := by decide +kernel
theorem d_La_law_703 : decode code 703 = .ok (.aload_n 2, 1) := by decide +kernel
theorem d_La_law_704 : decode code 704 = .ok (.aload_n 0, 1) := by decide +kernel
theorem d_La_law_705 : decode code 705 = .ok (.iload_n 3, 1) := by decide +kernel
theorem d_La_law_706 : decode code 706 = .ok (.iconst 1, 1) := by decide +kernel
theorem d_La_law_707 : decode code 707 = .ok (.iadd, 1) := by decide +kernel
theorem d_La_law_708 : decode code 708 = .ok (.iaload, 1) := by decide +kernel
theorem d_La_law_709 : decode code 709 = .ok (.invokevirtual 97, 3) := by decide +kernel
theorem d_La_law_712 : decode code 712 = .ok (.if_icmp .eq 174, 3) := by decide +kernel
theorem d_La_law_715 : decode code 715 = .ok (.iconst 0, 1) := by decide +kernel
theorem d_La_law_716 : decode code 716 = .ok (.ireturn, 1) := by decide +kernel
theorem d_La_law_717 : decode code 717 = .ok (.aload_n 1, 1) := by decide +kernel
theorem d_La_law_718 : decode code 718 = .ok (.aload_n 0, 1) := by decide +kernel
theorem d_La_law_719 : decode code 719 = .ok (.iload_n 3, 1) := by decide +kernel
theorem d_La_law_720 : decode code 720 = .ok (.iconst 1, 1) := by decide +kernel
theorem d_La_law_721 : decode code 721 = .ok (.iadd, 1) := by decide +kernel
theorem d_La_law_722 : decode code 722 = .ok (.iaload, 1) := by decide +kernel
theorem d_La_law_723 : decode code 723 = .ok (.invokevirtual 98, 3) := by decide +kernel
theorem d_La_law_726 : decode code 726 = .ok (.aload_n 2, 1) := by decide +kernel
theorem d_La_law_727 : decode code 727 = .ok (.aload_n 0, 1) := by decide +kernel
theorem d_La_law_728 : decode code 728 = .ok (.iload_n 3, 1) := by decide +kernel
theorem d_La_law_729 : decode code 729 = .ok (.iconst 1, 1) := by decide +kernel
theorem d_La_law_730 : decode code 730 = .ok (.iadd, 1) := by decide +kernel
theorem d_La_law_731 : decode code 731 = .ok (.iaload, 1) := by decide +kernel
theorem d_La_law_732 : decode code 732 = .ok (.invokevirtual 101, 3) := by decide +kernel
theorem d_La_law_735 : decode code 735 = .ok (.lcmp, 1) := by decide +kernel
theorem d_La_law_736 : decode code 736 = .ok (.ifCond .eq 150, 3) := by decide +kernel
theorem d_La_law_739 : decode code 739 = .ok (.iconst 0, 1) := by decide +kernel
theorem d_La_law_740 : decode code 740 = .ok (.ireturn, 1) := by decide +kernel
theorem d_La_law_741 : decode code 741 = .ok (.aload_n 1, 1) := by decide +kernel
theorem d_La_law_742 : decode code 742 = .ok (.aload_n 0, 1) := by decide +kernel
theorem d_La_law_743 : decode code 743 = .ok (.iload_n 3, 1) := by decide +kernel
theorem d_La_law_744 : decode code 744 = .ok (.iconst 1, 1) := by decide +kernel
theorem d_La_law_745 : decode code 745 = .ok (.iadd, 1) := by decide +kernel
theorem d_La_law_746 : decode code 746 = .ok (.iaload, 1) := by decide +kernel
theorem d_La_law_747 : decode code 747 = .ok (.invokevirtual 102, 3) := by decide +kernel
theorem d_La_law_750 : decode code 750 = .ok (.aload_n 2, 1) := by decide +kernel
theorem d_La_law_751 : decode code 751 = .ok (.aload_n 0, 1) := by decide +kernel
theorem d_La_law_752 : decode code 752 = .ok (.iload_n 3, 1) := by decide +kernel
theorem d_La_law_753 : decode code 753 = .ok (.iconst 1, 1) := by decide +kernel
theorem d_La_law_754 : decode code 754 = .ok (.iadd, 1) := by decide +kernel
theorem d_La_law_755 : decode code 755 = .ok (.iaload, 1) := by decide +kernel
theorem d_La_law_756 : decode code 756 = .ok (.invokevirtual 105, 3) := by decide +kernel
theorem d_La_law_759 : decode code 759 = .ok (.lcmp, 1) := by decide +kernel
theorem d_La_law_760 : decode code 760 = .ok (.ifCond .eq 126, 3) := by decide +kernel
theorem d_La_law_763 : decode code 763 = .ok (.iconst 0, 1) := by decide +kernel
theorem d_La_law_764 : decode code 764 = .ok (.ireturn, 1) := by decide +kernel
theorem d_La_law_765 : decode code 765 = .ok (.aload_n 1, 1) := by decide +kernel
theorem d_La_law_766 : decode code 766 = .ok (.aload_n 0, 1) := by decide +kernel
theorem d_La_law_767 : decode code 767 = .ok (.iload_n 3, 1) := by decide +kernel
theorem d_La_law_768 : decode code 768 = .ok (.iconst 1, 1) := by decide +kernel
theorem d_La_law_769 : decode code 769 = .ok (.iadd, 1) := by decide +kernel
theorem d_La_law_770 : decode code 770 = .ok (.iaload, 1) := by decide +kernel
theorem d_La_law_771 : decode code 771 = .ok (.invokevirtual 106, 3) := by decide +kernel
theorem d_La_law_774 : decode code 774 = .ok (.aload_n 2, 1) := by decide +kernel
theorem d_La_law_775 : decode code 775 = .ok (.aload_n 0, 1) := by decide +kernel
theorem d_La_law_776 : decode code 776 = .ok (.iload_n 3, 1) := by decide +kernel
theorem d_La_law_777 : decode code 777 = .ok (.iconst 1, 1) := by decide +kernel
theorem d_La_law_778 : decode code 778 = .ok (.iadd, 1) := by decide +kernel
theorem d_La_law_779 : decode code 779 = .ok (.iaload, 1) := by decide +kernel
theorem d_La_law_780 : decode code 780 = .ok (.invokevirtual 109, 3) := by decide +kernel
theorem d_La_law_783 : decode code 783 = .ok (.lcmp, 1) := by decide +kernel
theorem d_La_law_784 : decode code 784 = .ok (.ifCond .eq 102, 3) := by decide +kernel
theorem d_La_law_787 : decode code 787 = .ok (.iconst 0, 1) := by decide +kernel
theorem d_La_law_788 : decode code 788 = .ok (.ireturn, 1) := by decide +kernel
theorem d_La_law_789 : decode code 789 = .ok (.aload_n 1, 1) := by decide +kernel
theorem d_La_law_790 : decode code 790 = .ok (.aload_n 0, 1) := by decide +kernel
theorem d_La_law_791 : decode code 791 = .ok (.iload_n 3, 1) := by decide +kernel
theorem d_La_law_792 : decode code 792 = .ok (.iconst 1, 1) := by decide +kernel
theorem d_La_law_793 : decode code 793 = .ok (.iadd, 1) := by decide +kernel
theorem d_La_law_794 : decode code 794 = .ok (.iaload, 1) := by decide +kernel
theorem d_La_law_795 : decode code 795 = .ok (.aload_n 0, 1) := by decide +kernel
theorem d_La_law_796 : decode code 796 = .ok (.iload_n 3, 1) := by decide +kernel
theorem d_La_law_797 : decode code 797 = .ok (.iconst 2, 1) := by decide +kernel
theorem d_La_law_798 : decode code 798 = .ok (.iadd, 1) := by decide +kernel
theorem d_La_law_799 : decode code 799 = .ok (.iaload, 1) := by decide +kernel
theorem d_La_law_800 : decode code 800 = .ok (.invokevirtual 110, 3) := by decide +kernel
theorem d_La_law_803 : decode code 803 = .ok (.aload_n 2, 1) := by decide +kernel
theorem d_La_law_804 : decode code 804 = .ok (.aload_n 0, 1) := by decide +kernel
theorem d_La_law_805 : decode code 805 = .ok (.iload_n 3, 1) := by decide +kernel
theorem d_La_law_806 : decode code 806 = .ok (.iconst 1, 1) := by decide +kernel
theorem d_La_law_807 : decode code 807 = .ok (.iadd, 1) := by decide +kernel
theorem d_La_law_808 : decode code 808 = .ok (.iaload, 1) := by decide +kernel
theorem d_La_law_809 : decode code 809 = .ok (.aload_n 0, 1) := by decide +kernel
theorem d_La_law_810 : decode code 810 = .ok (.iload_n 3, 1) := by decide +kernel
theorem d_La_law_811 : decode code 811 = .ok (.iconst 2, 1) := by decide +kernel
theorem d_La_law_812 : decode code 812 = .ok (.iadd, 1) := by decide +kernel
theorem d_La_law_813 : decode code 813 = .ok (.iaload, 1) := by decide +kernel
theorem d_La_law_814 : decode code 814 = .ok (.invokevirtual 113, 3) := by decide +kernel
theorem d_La_law_817 : decode code 817 = .ok (.if_icmp .eq 69, 3) := by decide +kernel
theorem d_La_law_820 : decode code 820 = .ok (.iconst 0, 1) := by decide +kernel
theorem d_La_law_821 : decode code 821 = .ok (.ireturn, 1) := by decide +kernel
theorem d_La_law_822 : decode code 822 = .ok (.aload_n 1, 1) := by decide +kernel
theorem d_La_law_823 : decode code 823 = .ok (.aload_n 0, 1) := by decide +kernel
theorem d_La_law_824 : decode code 824 = .ok (.iload_n 3, 1) := by decide +kernel
theorem d_La_law_825 : decode code 825 = .ok (.iconst 1, 1) := by decide +kernel
theorem d_La_law_826 : decode code 826 = .ok (.iadd, 1) := by decide +kernel
theorem d_La_law_827 : decode code 827 = .ok (.iaload, 1) := by decide +kernel
theorem d_La_law_828 : decode code 828 = .ok (.aload_n 0, 1) := by decide +kernel
theorem d_La_law_829 : decode code 829 = .ok (.iload_n 3, 1) := by decide +kernel
theorem d_La_law_830 : decode code 830 = .ok (.iconst 2, 1) := by decide +kernel
theorem d_La_law_831 : decode code 831 = .ok (.iadd, 1) := by decide +kernel
theorem d_La_law_832 : decode code 832 = .ok (.iaload, 1) := by decide +kernel
theorem d_La_law_833 : decode code 833 = .ok (.aload_n 0, 1) := by decide +kernel
theorem d_La_law_834 : decode code 834 = .ok (.iload_n 3, 1) := by decide +kernel
theorem d_La_law_835 : decode code 835 = .ok (.iconst 3, 1) := by decide +kernel
theorem d_La_law_836 : decode code 836 = .ok (.iadd, 1) := by decide +kernel
theorem d_La_law_837 : decode code 837 = .ok (.iaload, 1) := by decide +kernel
theorem d_La_law_838 : decode code 838 = .ok (.aload_n 0, 1) := by decide +kernel
theorem d_La_law_839 : decode code 839 = .ok (.iload_n 3, 1) := by decide +kernel
theorem d_La_law_840 : decode code 840 = .ok (.iconst 4, 1) := by decide +kernel
theorem d_La_law_841 : decode code 841 = .ok (.iadd, 1) := by decide +kernel
theorem d_La_law_842 : decode code 842 = .ok (.iaload, 1) := by decide +kernel
theorem d_La_law_843 : decode code 843 = .ok (.aload_n 0, 1) := by decide +kernel
theorem d_La_law_844 : decode code 844 = .ok (.iload_n 3, 1) := by decide +kernel
theorem d_La_law_845 : decode code 845 = .ok (.iconst 5, 1) := by decide +kernel
theorem d_La_law_846 : decode code 846 = .ok (.iadd, 1) := by decide +kernel
theorem d_La_law_847 : decode code 847 = .ok (.iaload, 1) := by decide +kernel
theorem d_La_law_848 : decode code 848 = .ok (.invokevirtual 114, 3) := by decide +kernel
theorem d_La_law_851 : decode code 851 = .ok (.aload_n 2, 1) := by decide +kernel
theorem d_La_law_852 : decode code 852 = .ok (.aload_n 0, 1) := by decide +kernel
theorem d_La_law_853 : decode code 853 = .ok (.iload_n 3, 1) := by decide +kernel
theorem d_La_law_854 : decode code 854 = .ok (.iconst 1, 1) := by decide +kernel
theorem d_La_law_855 : decode code 855 = .ok (.iadd, 1) := by decide +kernel
theorem d_La_law_856 : decode code 856 = .ok (.iaload, 1) := by decide +kernel
theorem d_La_law_857 : decode code 857 = .ok (.aload_n 0, 1) := by decide +kernel
theorem d_La_law_858 : decode code 858 = .ok (.iload_n 3, 1) := by decide +kernel
theorem d_La_law_859 : decode code 859 = .ok (.iconst 2, 1) := by decide +kernel
theorem d_La_law_860 : decode code 860 = .ok (.iadd, 1) := by decide +kernel
theorem d_La_law_861 : decode code 861 = .ok (.iaload, 1) := by decide +kernel
theorem d_La_law_862 : decode code 862 = .ok (.aload_n 0, 1) := by decide +kernel
theorem d_La_law_863 : decode code 863 = .ok (.iload_n 3, 1) := by decide +kernel
theorem d_La_law_864 : decode code 864 = .ok (.iconst 3, 1) := by decide +kernel
theorem d_La_law_865 : decode code 865 = .ok (.iadd, 1) := by decide +kernel
theorem d_La_law_866 : decode code 866 = .ok (.iaload, 1) := by decide +kernel
theorem d_La_law_867 : decode code 867 = .ok (.aload_n 0, 1) := by decide +kernel
theorem d_La_law_868 : decode code 868 = .ok (.iload_n 3, 1) := by decide +kernel
theorem d_La_law_869 : decode code 869 = .ok (.iconst 4, 1) := by decide +kernel
theorem d_La_law_870 : decode code 870 = .ok (.iadd, 1) := by decide +kernel
theorem d_La_law_871 : decode code 871 = .ok (.iaload, 1) := by decide +kernel
theorem d_La_law_872 : decode code 872 = .ok (.aload_n 0, 1) := by decide +kernel
theorem d_La_law_873 : decode code 873 = .ok (.iload_n 3, 1) := by decide +kernel
theorem d_La_law_874 : decode code 874 = .ok (.iconst 5, 1) := by decide +kernel
theorem d_La_law_875 : decode code 875 = .ok (.iadd, 1) := by decide +kernel
theorem d_La_law_876 : decode code 876 = .ok (.iaload, 1) := by decide +kernel
theorem d_La_law_877 : decode code 877 = .ok (.invokevirtual 118, 3) := by decide +kernel
theorem d_La_law_880 : decode code 880 = .ok (.lcmp, 1) := by decide +kernel
theorem d_La_law_881 : decode code 881 = .ok (.ifCond .eq 5, 3) := by decide +kernel
theorem d_La_law_884 : decode code 884 = .ok (.iconst 0, 1) := by decide +kernel
theorem d_La_law_885 : decode code 885 = .ok (.ireturn, 1) := by decide +kernel
theorem d_La_law_886 : decode code 886 = .ok (.iinc 3 6, 3) := by decide +kernel
theorem d_La_law_889 : decode code 889 = .ok (.goto (-871), 3) := by decide +kernel
theorem d_La_law_892 : decode code 892 = .ok (.iconst 1, 1) := by decide +kernel
theorem d_La_law_893 : decode code 893 = .ok (.ireturn, 1) := by decide +kernel
