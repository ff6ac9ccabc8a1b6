theorem eL_law_0 : decode mL_law.2.1 0 = .ok (.new 7, 3) := by decide +kernel
theorem eL_law_3 : decode mL_law.2.1 3 = .ok (.dup, 1) := by decide +kernel
theorem eL_law_4 : decode mL_law.2.1 4 = .ok (.invokespecial 9, 3) := by decide +kernel
theorem eL_law_7 : decode mL_law.2.1 7 = .ok (.astore_n 1, 1) := by decide +kernel
theorem eL_law_8 : decode mL_law.2.1 8 = .ok (.new 10, 3) := by decide +kernel
theorem eL_law_11 : decode mL_law.2.1 11 = .ok (.dup, 1) := by decide +kernel
theorem eL_law_12 : decode mL_law.2.1 12 = .ok (.invokespecial 12, 3) := by decide +kernel
theorem eL_law_15 : decode mL_law.2.1 15 = .ok (.astore_n 2, 1) := by decide +kernel
theorem eL_law_16 : decode mL_law.2.1 16 = .ok (.iconst 0, 1) := by decide +kernel
theorem eL_law_17 : decode mL_law.2.1 17 = .ok (.istore_n 3, 1) := by decide +kernel
theorem eL_law_18 : decode mL_law.2.1 18 = .ok (.iload_n 3, 1) := by decide +kernel
theorem eL_law_19 : decode mL_law.2.1 19 = .ok (.aload_n 0, 1) := by decide +kernel
theorem eL_law_20 : decode mL_law.2.1 20 = .ok (.arraylength, 1) := by decide +kernel
theorem eL_law_21 : decode mL_law.2.1 21 = .ok (.bipush 6, 2) := by decide +kernel
theorem eL_law_23 : decode mL_law.2.1 23 = .ok (.isub, 1) := by decide +kernel
theorem eL_law_24 : decode mL_law.2.1 24 = .ok (.if_icmp .gt 1281, 3) := by decide +kernel
theorem eL_law_27 : decode mL_law.2.1 27 = .ok (.aload_n 0, 1) := by decide +kernel
theorem eL_law_28 : decode mL_law.2.1 28 = .ok (.iload_n 3, 1) := by decide +kernel
theorem eL_law_29 : decode mL_law.2.1 29 = .ok (.iaload, 1) := by decide +kernel
theorem eL_law_30 : decode mL_law.2.1 30 = .ok (.bipush 31, 2) := by decide +kernel
theorem eL_law_32 : decode mL_law.2.1 32 = .ok (.iand, 1) := by decide +kernel
theorem eL_law_33 : decode mL_law.2.1 33 = .ok (.tableswitch 1266 0 31 #[143, 186, 219, 262, 295, 358, 401, 454, 497, 540, 583, 636, 669, 712, 745, 808, 841, 864, 897, 920, 953, 986, 1019, 1068, 1101, 1134, 1158, 1171, 1184, 1207, 1230, 1243], 143) := by decide +kernel
theorem eL_law_176 : decode mL_law.2.1 176 = .ok (.aload_n 1, 1) := by decide +kernel
theorem eL_law_177 : decode mL_law.2.1 177 = .ok (.aload_n 0, 1) := by decide +kernel
theorem eL_law_178 : decode mL_law.2.1 178 = .ok (.iload_n 3, 1) := by decide +kernel
theorem eL_law_179 : decode mL_law.2.1 179 = .ok (.iconst 1, 1) := by decide +kernel
theorem eL_law_180 : decode mL_law.2.1 180 = .ok (.iadd, 1) := by decide +kernel
theorem eL_law_181 : decode mL_law.2.1 181 = .ok (.iaload, 1) := by decide +kernel
theorem eL_law_182 : decode mL_law.2.1 182 = .ok (.aload_n 0, 1) := by decide +kernel
theorem eL_law_183 : decode mL_law.2.1 183 = .ok (.iload_n 3, 1) := by decide +kernel
theorem eL_law_184 : decode mL_law.2.1 184 = .ok (.iconst 2, 1) := by decide +kernel
theorem eL_law_185 : decode mL_law.2.1 185 = .ok (.iadd, 1) := by decide +kernel
theorem eL_law_186 : decode mL_law.2.1 186 = .ok (.iaload, 1) := by decide +kernel
theorem eL_law_187 : decode mL_law.2.1 187 = .ok (.aload_n 0, 1) := by decide +kernel
theorem eL_law_188 : decode mL_law.2.1 188 = .ok (.iload_n 3, 1) := by decide +kernel
theorem eL_law_189 : decode mL_law.2.1 189 = .ok (.iconst 3, 1) := by decide +kernel
theorem eL_law_190 : decode mL_law.2.1 190 = .ok (.iadd, 1) := by decide +kernel
theorem eL_law_191 : decode mL_law.2.1 191 = .ok (.iaload, 1) := by decide +kernel
theorem eL_law_192 : decode mL_law.2.1 192 = .ok (.invokevirtual 13, 3) := by decide +kernel
theorem eL_law_195 : decode mL_law.2.1 195 = .ok (.aload_n 2, 1) := by decide +kernel
theorem eL_law_196 : decode mL_law.2.1 196 = .ok (.aload_n 0, 1) := by decide +kernel
theorem eL_law_197 : decode mL_law.2.1 197 = .ok (.iload_n 3, 1) := by decide +kernel
theorem eL_law_198 : decode mL_law.2.1 198 = .ok (.iconst 1, 1) := by decide +kernel
theorem eL_law_199 : decode mL_law.2.1 199 = .ok (.iadd, 1) := by decide +kernel
theorem eL_law_200 : decode mL_law.2.1 200 = .ok (.iaload, 1) := by decide +kernel
theorem eL_law_201 : decode mL_law.2.1 201 = .ok (.aload_n 0, 1) := by decide +kernel
theorem eL_law_202 : decode mL_law.2.1 202 = .ok (.iload_n 3, 1) := by decide +kernel
theorem eL_law_203 : decode mL_law.2.1 203 = .ok (.iconst 2, 1) := by decide +kernel
theorem eL_law_204 : decode mL_law.2.1 204 = .ok (.iadd, 1) := by decide +kernel
theorem eL_law_205 : decode mL_law.2.1 205 = .ok (.iaload, 1) := by decide +kernel
theorem eL_law_206 : decode mL_law.2.1 206 = .ok (.aload_n 0, 1) := by decide +kernel
theorem eL_law_207 : decode mL_law.2.1 207 = .ok (.iload_n 3, 1) := by decide +kernel
theorem eL_law_208 : decode mL_law.2.1 208 = .ok (.iconst 3, 1) := by decide +kernel
theorem eL_law_209 : decode mL_law.2.1 209 = .ok (.iadd, 1) := by decide +kernel
theorem eL_law_210 : decode mL_law.2.1 210 = .ok (.iaload, 1) := by decide +kernel
theorem eL_law_211 : decode mL_law.2.1 211 = .ok (.invokevirtual 17, 3) := by decide +kernel
theorem eL_law_214 : decode mL_law.2.1 214 = .ok (.if_icmp .eq 1085, 3) := by decide +kernel
theorem eL_law_217 : decode mL_law.2.1 217 = .ok (.iconst 0, 1) := by decide +kernel
theorem eL_law_218 : decode mL_law.2.1 218 = .ok (.ireturn, 1) := by decide +kernel
theorem eL_law_219 : decode mL_law.2.1 219 = .ok (.aload_n 1, 1) := by decide +kernel
theorem eL_law_220 : decode mL_law.2.1 220 = .ok (.aload_n 0, 1) := by decide +kernel
theorem eL_law_221 : decode mL_law.2.1 221 = .ok (.iload_n 3, 1) := by decide +kernel
theorem eL_law_222 : decode mL_law.2.1 222 = .ok (.iconst 1, 1) := by decide +kernel
theorem eL_law_223 : decode mL_law.2.1 223 = .ok (.iadd, 1) := by decide +kernel
theorem eL_law_224 : decode mL_law.2.1 224 = .ok (.iaload, 1) := by decide +kernel
theorem eL_law_225 : decode mL_law.2.1 225 = .ok (.aload_n 0, 1) := by decide +kernel
theorem eL_law_226 : decode mL_law.2.1 226 = .ok (.iload_n 3, 1) := by decide +kernel
theorem eL_law_227 : decode mL_law.2.1 227 = .ok (.iconst 2, 1) := by decide +kernel
theorem eL_law_228 : decode mL_law.2.1 228 = .ok (.iadd, 1) := by decide +kernel
theorem eL_law_229 : decode mL_law.2.1 229 = .ok (.iaload, 1) := by decide +kernel
theorem eL_law_230 : decode mL_law.2.1 230 = .ok (.invokevirtual 18, 3) := by decide +kernel
theorem eL_law_233 : decode mL_law.2.1 233 = .ok (.aload_n 2, 1) := by decide +kernel
theorem eL_law_234 : decode mL_law.2.1 234 = .ok (.aload_n 0, 1) := by decide +kernel
theorem eL_law_235 : decode mL_law.2.1 235 = .ok (.iload_n 3, 1) := by decide +kernel
theorem eL_law_236 : decode mL_law.2.1 236 = .ok (.iconst 1, 1) := by decide +kernel
theorem eL_law_237 : decode mL_law.2.1 237 = .ok (.iadd, 1) := by decide +kernel
theorem eL_law_238 : decode mL_law.2.1 238 = .ok (.iaload, 1) := by decide +kernel
theorem eL_law_239 : decode mL_law.2.1 239 = .ok (.aload_n 0, 1) := by decide +kernel
theorem eL_law_240 : decode mL_law.2.1 240 = .ok (.iload_n 3, 1) := by decide +kernel
theorem eL_law_241 : decode mL_law.2.1 241 = .ok (.iconst 2, 1) := by decide +kernel
theorem eL_law_242 : decode mL_law.2.1 242 = .ok (.iadd, 1) := by decide +kernel
theorem eL_law_243 : decode mL_law.2.1 243 = .ok (.iaload, 1) := by decide +kernel
theorem eL_law_244 : decode mL_law.2.1 244 = .ok (.invokevirtual 22, 3) := by decide +kernel
theorem eL_law_247 : decode mL_law.2.1 247 = .ok (.if_icmp .eq 1052, 3) := by decide +kernel
theorem eL_law_250 : decode mL_law.2.1 250 = .ok (.iconst 0, 1) := by decide +kernel
theorem eL_law_251 : decode mL_law.2.1 251 = .ok (.ireturn, 1) := by decide +kernel
theorem eL_law_252 : decode mL_law.2.1 252 = .ok (.aload_n 1, 1) := by decide +kernel
theorem eL_law_253 : decode mL_law.2.1 253 = .ok (.aload_n 0, 1) := by decide +kernel
theorem eL_law_254 : decode mL_law.2.1 254 = .ok (.iload_n 3, 1) := by decide +kernel
theorem eL_law_255 : decode mL_law.2.1 255 = .ok (.iconst 1, 1) := by decide +kernel
theorem eL_law_256 : decode mL_law.2.1 256 = .ok (.iadd, 1) := by decide +kernel
theorem eL_law_257 : decode mL_law.2.1 257 = .ok (.iaload, 1) := by decide +kernel
theorem eL_law_258 : decode mL_law.2.1 258 = .ok (.aload_n 0, 1) := by decide +kernel
theorem eL_law_259 : decode mL_law.2.1 259 = .ok (.iload_n 3, 1) := by decide +kernel
theorem eL_law_260 : decode mL_law.2.1 260 = .ok (.iconst 2, 1) := by decide +kernel
theorem eL_law_261 : decode mL_law.2.1 261 = .ok (.iadd, 1) := by decide +kernel
theorem eL_law_262 : decode mL_law.2.1 262 = .ok (.iaload, 1) := by decide +kernel
theorem eL_law_263 : decode mL_law.2.1 263 = .ok (.aload_n 0, 1) := by decide +kernel
theorem eL_law_264 : decode mL_law.2.1 264 = .ok (.iload_n 3, 1) := by decide +kernel
theorem eL_law_265 : decode mL_law.2.1 265 = .ok (.iconst 3, 1) := by decide +kernel
theorem eL_law_266 : decode mL_law.2.1 266 = .ok (.iadd, 1) := by decide +kernel
theorem eL_law_267 : decode mL_law.2.1 267 = .ok (.iaload, 1) := by decide +kernel
theorem eL_law_268 : decode mL_law.2.1 268 = .ok (.invokevirtual 23, 3) := by decide +kernel
theorem eL_law_271 : decode mL_law.2.1 271 = .ok (.aload_n 2, 1) := by decide +kernel
theorem eL_law_272 : decode mL_law.2.1 272 = .ok (.aload_n 0, 1) := by decide +kernel
theorem eL_law_273 : decode mL_law.2.1 273 = .ok (.iload_n 3, 1) := by decide +kernel
theorem eL_law_274 : decode mL_law.2.1 274 = .ok (.iconst 1, 1) := by decide +kernel
theorem eL_law_275 : decode mL_law.2.1 275 = .ok (.iadd, 1) := by decide +kernel
theorem eL_law_276 : decode mL_law.2.1 276 = .ok (.iaload, 1) := by decide +kernel
theorem eL_law_277 : decode mL_law.2.1 277 = .ok (.aload_n 0, 1) := by decide +kernel
theorem eL_law_278 : decode mL_law.2.1 278 = .ok (.iload_n 3, 1) := by decide +kernel
theorem eL_law_279 : decode mL_law.2.1 279 = .ok (.iconst 2, 1) := by decide +kernel
theorem eL_law_280 : decode mL_law.2.1 280 = .ok (.iadd, 1) := by decide +kernel
theorem eL_law_281 : decode mL_law.2.1 281 = .ok (.iaload, 1) := by decide +kernel
theorem eL_law_282 : decode mL_law.2.1 282 = .ok (.aload_n 0, 1) := by decide +kernel
theorem eL_law_283 : decode mL_law.2.1 283 = .ok (.iload_n 3, 1) := by decide +kernel
theorem eL_law_284 : decode mL_law.2.1 284 = .ok (.iconst 3, 1) := by decide +kernel
theorem eL_law_285 : decode mL_law.2.1 285 = .ok (.iadd, 1) := by decide +kernel
theorem eL_law_286 : decode mL_law.2.1 286 = .ok (.iaload, 1) := by decide +kernel
theorem eL_law_287 : decode mL_law.2.1 287 = .ok (.invokevirtual 27, 3) := by decide +kernel
theorem eL_law_290 : decode mL_law.2.1 290 = .ok (.if_icmp .eq 1009, 3) := by decide +kernel
theorem eL_law_293 : decode mL_law.2.1 293 = .ok (.iconst 0, 1) := by decide +kernel
theorem eL_law_294 : decode mL_law.2.1 294 = .ok (.ireturn, 1) := by decide +kernel
theorem eL_law_295 : decode mL_law.2.1 295 = .ok (.aload_n 1, 1) := by decide +kernel
theorem eL_law_296 : decode mL_law.2.1 296 = .ok (.aload_n 0, 1) := by decide +kernel
theorem eL_law_297 : decode mL_law.2.1 297 = .ok (.iload_n 3, 1) := by decide +kernel
theorem eL_law_298 : decode mL_law.2.1 298 = .ok (.iconst 1, 1) := by decide +kernel
theorem eL_law_299 : decode mL_law.2.1 299 = .ok (.iadd, 1) := by decide +kernel
theorem eL_law_300 : decode mL_law.2.1 300 = .ok (.iaload, 1) := by decide +kernel
theorem eL_law_301 : decode mL_law.2.1 301 = .ok (.aload_n 0, 1) := by decide +kernel
theorem eL_law_302 : decode mL_law.2.1 302 = .ok (.iload_n 3, 1) := by decide +kernel
theorem eL_law_303 : decode mL_law.2.1 303 = .ok (.iconst 2, 1) := by decide +kernel
theorem eL_law_304 : decode mL_law.2.1 304 = .ok (.iadd, 1) := by decide +kernel
theorem eL_law_305 : decode mL_law.2.1 305 = .ok (.iaload, 1) := by decide +kernel
theorem eL_law_306 : decode mL_law.2.1 306 = .ok (.invokevirtual 28, 3) := by decide +kernel
theorem eL_law_309 : decode mL_law.2.1 309 = .ok (.aload_n 2, 1) := by decide +kernel
theorem eL_law_310 : decode mL_law.2.1 310 = .ok (.aload_n 0, 1) := by decide +kernel
theorem eL_law_311 : decode mL_law.2.1 311 = .ok (.iload_n 3, 1) := by decide +kernel
theorem eL_law_312 : decode mL_law.2.1 312 = .ok (.iconst 1, 1) := by decide +kernel
theorem eL_law_313 : decode mL_law.2.1 313 = .ok (.iadd, 1) := by decide +kernel
theorem eL_law_314 : decode mL_law.2.1 314 = .ok (.iaload, 1) := by decide +kernel
theorem eL_law_315 : decode mL_law.2.1 315 = .ok (.aload_n 0, 1) := by decide +kernel
theorem eL_law_316 : decode mL_law.2.1 316 = .ok (.iload_n 3, 1) := by decide +kernel
theorem eL_law_317 : decode mL_law.2.1 317 = .ok (.iconst 2, 1) := by decide +kernel
theorem eL_law_318 : decode mL_law.2.1 318 = .ok (.iadd, 1) := by decide +kernel
theorem eL_law_319 : decode mL_law.2.1 319 = .ok (.iaload, 1) := by decide +kernel
theorem eL_law_320 : decode mL_law.2.1 320 = .ok (.invokevirtual 32, 3) := by decide +kernel
theorem eL_law_323 : decode mL_law.2.1 323 = .ok (.if_icmp .eq 976, 3) := by decide +kernel
theorem eL_law_326 : decode mL_law.2.1 326 = .ok (.iconst 0, 1) := by decide +kernel
theorem eL_law_327 : decode mL_law.2.1 327 = .ok (.ireturn, 1) := by decide +kernel
theorem eL_law_328 : decode mL_law.2.1 328 = .ok (.aload_n 1, 1) := by decide +kernel
theorem eL_law_329 : decode mL_law.2.1 329 = .ok (.aload_n 0, 1) := by decide +kernel
theorem eL_law_330 : decode mL_law.2.1 330 = .ok (.iload_n 3, 1) := by decide +kernel
theorem eL_law_331 : decode mL_law.2.1 331 = .ok (.iconst 1, 1) := by decide +kernel
theorem eL_law_332 : decode mL_law.2.1 332 = .ok (.iadd, 1) := by decide +kernel
theorem eL_law_333 : decode mL_law.2.1 333 = .ok (.iaload, 1) := by decide +kernel
theorem eL_law_334 : decode mL_law.2.1 334 = .ok (.aload_n 0, 1) := by decide +kernel
theorem eL_law_335 : decode mL_law.2.1 335 = .ok (.iload_n 3, 1) := by decide +kernel
theorem eL_law_336 : decode mL_law.2.1 336 = .ok (.iconst 2, 1) := by decide +kernel
theorem eL_law_337 : decode mL_law.2.1 337 = .ok (.iadd, 1) := by decide +kernel
theorem eL_law_338 : decode mL_law.2.1 338 = .ok (.iaload, 1) := by decide +kernel
theorem eL_law_339 : decode mL_law.2.1 339 = .ok (.aload_n 0, 1) := by decide +kernel
theorem eL_law_340 : decode mL_law.2.1 340 = .ok (.iload_n 3, 1) := by decide +kernel
theorem eL_law_341 : decode mL_law.2.1 341 = .ok (.iconst 3, 1) := by decide +kernel
theorem eL_law_342 : decode mL_law.2.1 342 = .ok (.iadd, 1) := by decide +kernel
theorem eL_law_343 : decode mL_law.2.1 343 = .ok (.iaload, 1) := by decide +kernel
theorem eL_law_344 : decode mL_law.2.1 344 = .ok (.aload_n 0, 1) := by decide +kernel
theorem eL_law_345 : decode mL_law.2.1 345 = .ok (.iload_n 3, 1) := by decide +kernel
theorem eL_law_346 : decode mL_law.2.1 346 = .ok (.iconst 4, 1) := by decide +kernel
theorem eL_law_347 : decode mL_law.2.1 347 = .ok (.iadd, 1) := by decide +kernel
theorem eL_law_348 : decode mL_law.2.1 348 = .ok (.iaload, 1) := by decide +kernel
theorem eL_law_349 : decode mL_law.2.1 349 = .ok (.aload_n 0, 1) := by decide +kernel
theorem eL_law_350 : decode mL_law.2.1 350 = .ok (.iload_n 3, 1) := by decide +kernel
theorem eL_law_351 : decode mL_law.2.1 351 = .ok (.iconst 5, 1) := by decide +kernel
theorem eL_law_352 : decode mL_law.2.1 352 = .ok (.iadd, 1) := by decide +kernel
theorem eL_law_353 : decode mL_law.2.1 353 = .ok (.iaload, 1) := by decide +kernel
theorem eL_law_354 : decode mL_law.2.1 354 = .ok (.invokevirtual 33, 3) := by decide +kernel
theorem eL_law_357 : decode mL_law.2.1 357 = .ok (.aload_n 2, 1) := by decide +kernel
theorem eL_law_358 : decode mL_law.2.1 358 = .ok (.aload_n 0, 1) := by decide +kernel
theorem eL_law_359 : decode mL_law.2.1 359 = .ok (.iload_n 3, 1) := by decide +kernel
theorem eL_law_360 : decode mL_law.2.1 360 = .ok (.iconst 1, 1) := by decide +kernel
theorem eL_law_361 : decode mL_law.2.1 361 = .ok (.iadd, 1) := by decide +kernel
theorem eL_law_362 : decode mL_law.2.1 362 = .ok (.iaload, 1) := by decide +kernel
theorem eL_law_363 : decode mL_law.2.1 363 = .ok (.aload_n 0, 1) := by decide +kernel
theorem eL_law_364 : decode mL_law.2.1 364 = .ok (.iload_n 3, 1) := by decide +kernel
theorem eL_law_365 : decode mL_law.2.1 365 = .ok (.iconst 2, 1) := by decide +kernel
theorem eL_law_366 : decode mL_law.2.1 366 = .ok (.iadd, 1) := by decide +kernel
theorem eL_law_367 : decode mL_law.2.1 367 = .ok (.iaload, 1) := by decide +kernel
theorem eL_law_368 : decode mL_law.2.1 368 = .ok (.aload_n 0, 1) := by decide +kernel
theorem eL_law_369 : decode mL_law.2.1 369 = .ok (.iload_n 3, 1) := by decide +kernel
theorem eL_law_370 : decode mL_law.2.1 370 = .ok (.iconst 3, 1) := by decide +kernel
theorem eL_law_371 : decode mL_law.2.1 371 = .ok (.iadd, 1) := by decide +kernel
theorem eL_law_372 : decode mL_law.2.1 372 = .ok (.iaload, 1) := by decide +kernel
theorem eL_law_373 : decode mL_law.2.1 373 = .ok (.aload_n 0, 1) := by decide +kernel
theorem eL_law_374 : decode mL_law.2.1 374 = .ok (.iload_n 3, 1) := by decide +kernel
theorem eL_law_375 : decode mL_law.2.1 375 = .ok (.iconst 4, 1) := by decide +kernel
theorem eL_law_376 : decode mL_law.2.1 376 = .ok (.iadd, 1) := by decide +kernel
theorem eL_law_377 : decode mL_law.2.1 377 = .ok (.iaload, 1) := by decide +kernel
theorem eL_law_378 : decode mL_law.2.1 378 = .ok (.aload_n 0, 1) := by decide +kernel
theorem eL_law_379 : decode mL_law.2.1 379 = .ok (.iload_n 3, 1) := by decide +kernel
theorem eL_law_380 : decode mL_law.2.1 380 = .ok (.iconst 5, 1) := by decide +kernel
theorem eL_law_381 : decode mL_law.2.1 381 = .ok (.iadd, 1) := by decide +kernel
theorem eL_law_382 : decode mL_law.2.1 382 = .ok (.iaload, 1) := by decide +kernel
theorem eL_law_383 : decode mL_law.2.1 383 = .ok (.invokevirtual 37, 3) := by decide +kernel
theorem eL_law_386 : decode mL_law.2.1 386 = .ok (.if_icmp .eq 913, 3) := by decide +kernel
theorem eL_law_389 : decode mL_law.2.1 389 = .ok (.iconst 0, 1) := by decide +kernel
theorem eL_law_390 : decode mL_law.2.1 390 = .ok (.ireturn, 1) := by decide +kernel
theorem eL_law_391 : decode mL_law.2.1 391 = .ok (.aload_n 1, 1) := by decide +kernel
theorem eL_law_392 : decode mL_law.2.1 392 = .ok (.aload_n 0, 1) := by decide +kernel
theorem eL_law_393 : decode mL_law.2.1 393 = .ok (.iload_n 3, 1) := by decide +kernel
theorem eL_law_394 : decode mL_law.2.1 394 = .ok (.iconst 1, 1) := by decide +kernel
theorem eL_law_395 : decode mL_law.2.1 395 = .ok (.iadd, 1) := by decide +kernel
theorem eL_law_396 : decode mL_law.2.1 396 = .ok (.iaload, 1) := by decide +kernel
theorem eL_law_397 : decode mL_law.2.1 397 = .ok (.aload_n 0, 1) := by decide +kernel
theorem eL_law_398 : decode mL_law.2.1 398 = .ok (.iload_n 3, 1) := by decide +kernel
theorem eL_law_399 : decode mL_law.2.1 399 = .ok (.iconst 2, 1) := by decide +kernel
theorem eL_law_400 : decode mL_law.2.1 400 = .ok (.iadd, 1) := by decide +kernel
theorem eL_law_401 : decode mL_law.2.1 401 = .ok (.iaload, 1) := by decide +kernel
theorem eL_law_402 : decode mL_law.2.1 402 = .ok (.aload_n 0, 1) := by decide +kernel
theorem eL_law_403 : decode mL_law.2.1 403 = .ok (.iload_n 3, 1) := by decide +kernel
theorem eL_law_404 : decode mL_law.2.1 404 = .ok (.iconst 3, 1) := by decide +kernel
theorem eL_law_405 : decode mL_law.2.1 405 = .ok (.iadd, 1) := by decide +kernel
theorem eL_law_406 : decode mL_law.2.1 406 = .ok (.iaload, 1) := by decide +kernel
theorem eL_law_407 : decode mL_law.2.1 407 = .ok (.invokevirtual 38, 3) := by decide +kernel
theorem eL_law_410 : decode mL_law.2.1 410 = .ok (.aload_n 2, 1) := by decide +kernel
theorem eL_law_411 : decode mL_law.2.1 411 = .ok (.aload_n 0, 1) := by decide +kernel
theorem eL_law_412 : decode mL_law.2.1 412 = .ok (.iload_n 3, 1) := by decide +kernel
theorem eL_law_413 : decode mL_law.2.1 413 = .ok (.iconst 1, 1) := by decide +kernel
theorem eL_law_414 : decode mL_law.2.1 414 = .ok (.iadd, 1) := by decide +kernel
theorem eL_law_415 : decode mL_law.2.1 415 = .ok (.iaload, 1) := by decide +kernel
theorem eL_law_416 : decode mL_law.2.1 416 = .ok (.aload_n 0, 1) := by decide +kernel
theorem eL_law_417 : decode mL_law.2.1 417 = .ok (.iload_n 3, 1) := by decide +kernel
theorem eL_law_418 : decode mL_law.2.1 418 = .ok (.iconst 2, 1) := by decide +kernel
theorem eL_law_419 : decode mL_law.2.1 419 = .ok (.iadd, 1) := by decide +kernel
theorem eL_law_420 : decode mL_law.2.1 420 = .ok (.iaload, 1) := by decide +kernel
theorem eL_law_421 : decode mL_law.2.1 421 = .ok (.aload_n 0, 1) := by decide +kernel
theorem eL_law_422 : decode mL_law.2.1 422 = .ok (.iload_n 3, 1) := by decide +kernel
theorem eL_law_423 : decode mL_law.2.1 423 = .ok (.iconst 3, 1) := by decide +kernel
theorem eL_law_424 : decode mL_law.2.1 424 = .ok (.iadd, 1) := by decide +kernel
theorem eL_law_425 : decode mL_law.2.1 425 = .ok (.iaload, 1) := by decide +kernel
theorem eL_law_426 : decode mL_law.2.1 426 = .ok (.invokevirtual 41, 3) := by decide +kernel
theorem eL_law_429 : decode mL_law.2.1 429 = .ok (.if_icmp .eq 870, 3) := by decide +kernel
theorem eL_law_432 : decode mL_law.2.1 432 = .ok (.iconst 0, 1) := by decide +kernel
theorem eL_law_433 : decode mL_law.2.1 433 = .ok (.ireturn, 1) := by decide +kernel
theorem eL_law_434 : decode mL_law.2.1 434 = .ok (.aload_n 1, 1) := by decide +kernel
theorem eL_law_435 : decode mL_law.2.1 435 = .ok (.aload_n 0, 1) := by decide +kernel
theorem eL_law_436 : decode mL_law.2.1 436 = .ok (.iload_n 3, 1) := by decide +kernel
theorem eL_law_437 : decode mL_law.2.1 437 = .ok (.iconst 1, 1) := by decide +kernel
theorem eL_law_438 : decode mL_law.2.1 438 = .ok (.iadd, 1) := by decide +kernel
theorem eL_law_439 : decode mL_law.2.1 439 = .ok (.iaload, 1) := by decide +kernel
theorem eL_law_440 : decode mL_law.2.1 440 = .ok (.aload_n 0, 1) := by decide +kernel
theorem eL_law_441 : decode mL_law.2.1 441 = .ok (.iload_n 3, 1) := by decide +kernel
theorem eL_law_442 : decode mL_law.2.1 442 = .ok (.iconst 2, 1) := by decide +kernel
theorem eL_law_443 : decode mL_law.2.1 443 = .ok (.iadd, 1) := by decide +kernel
theorem eL_law_444 : decode mL_law.2.1 444 = .ok (.iaload, 1) := by decide +kernel
theorem eL_law_445 : decode mL_law.2.1 445 = .ok (.aload_n 0, 1) := by decide +kernel
theorem eL_law_446 : decode mL_law.2.1 446 = .ok (.iload_n 3, 1) := by decide +kernel
theorem eL_law_447 : decode mL_law.2.1 447 = .ok (.iconst 3, 1) := by decide +kernel
theorem eL_law_448 : decode mL_law.2.1 448 = .ok (.iadd, 1) := by decide +kernel
theorem eL_law_449 : decode mL_law.2.1 449 = .ok (.iaload, 1) := by decide +kernel
theorem eL_law_450 : decode mL_law.2.1 450 = .ok (.aload_n 0, 1) := by decide +kernel
theorem eL_law_451 : decode mL_law.2.1 451 = .ok (.iload_n 3, 1) := by decide +kernel
theorem eL_law_452 : decode mL_law.2.1 452 = .ok (.iconst 4, 1) := by decide +kernel
theorem eL_law_453 : decode mL_law.2.1 453 = .ok (.iadd, 1) := by decide +kernel
theorem eL_law_454 : decode mL_law.2.1 454 = .ok (.iaload, 1) := by decide +kernel
theorem eL_law_455 : decode mL_law.2.1 455 = .ok (.invokevirtual 42, 3) := by decide +kernel
theorem eL_law_458 : decode mL_law.2.1 458 = .ok (.aload_n 2, 1) := by decide +kernel
theorem eL_law_459 : decode mL_law.2.1 459 = .ok (.aload_n 0, 1) := by decide +kernel
theorem eL_law_460 : decode mL_law.2.1 460 = .ok (.iload_n 3, 1) := by decide +kernel
theorem eL_law_461 : decode mL_law.2.1 461 = .ok (.iconst 1, 1) := by decide +kernel
theorem eL_law_462 : decode mL_law.2.1 462 = .ok (.iadd, 1) := by decide +kernel
theorem eL_law_463 : decode mL_law.2.1 463 = .ok (.iaload, 1) := by decide +kernel
theorem eL_law_464 : decode mL_law.2.1 464 = .ok (.aload_n 0, 1) := by decide +kernel
theorem eL_law_465 : decode mL_law.2.1 465 = .ok (.iload_n 3, 1) := by decide +kernel
theorem eL_law_466 : decode mL_law.2.1 466 = .ok (.iconst 2, 1) := by decide +kernel
theorem eL_law_467 : decode mL_law.2.1 467 = .ok (.iadd, 1) := by decide +kernel
theorem eL_law_468 : decode mL_law.2.1 468 = .ok (.iaload, 1) := by decide +kernel
theorem eL_law_469 : decode mL_law.2.1 469 = .ok (.aload_n 0, 1) := by decide +kernel
theorem eL_law_470 : decode mL_law.2.1 470 = .ok (.iload_n 3, 1) := by decide +kernel
theorem eL_law_471 : decode mL_law.2.1 471 = .ok (.iconst 3, 1) := by decide +kernel
theorem eL_law_472 : decode mL_law.2.1 472 = .ok (.iadd, 1) := by decide +kernel
theorem eL_law_473 : decode mL_law.2.1 473 = .ok (.iaload, 1) := by decide +kernel
theorem eL_law_474 : decode mL_law.2.1 474 = .ok (.aload_n 0, 1) := by decide +kernel
theorem eL_law_475 : decode mL_law.2.1 475 = .ok (.iload_n 3, 1) := by decide +kernel
theorem eL_law_476 : decode mL_law.2.1 476 = .ok (.iconst 4, 1) := by decide +kernel
theorem eL_law_477 : decode mL_law.2.1 477 = .ok (.iadd, 1) := by decide +kernel
theorem eL_law_478 : decode mL_law.2.1 478 = .ok (.iaload, 1) := by decide +kernel
theorem eL_law_479 : decode mL_law.2.1 479 = .ok (.invokevirtual 46, 3) := by decide +kernel
theorem eL_law_482 : decode mL_law.2.1 482 = .ok (.if_icmp .eq 817, 3) := by decide +kernel
theorem eL_law_485 : decode mL_law.2.1 485 = .ok (.iconst 0, 1) := by decide +kernel
theorem eL_law_486 : decode mL_law.2.1 486 = .ok (.ireturn, 1) := by decide +kernel
theorem eL_law_487 : decode mL_law.2.1 487 = .ok (.aload_n 1, 1) := by decide +kernel
theorem eL_law_488 : decode mL_law.2.1 488 = .ok (.aload_n 0, 1) := by decide +kernel
theorem eL_law_489 : decode mL_law.2.1 489 = .ok (.iload_n 3, 1) := by decide +kernel
theorem eL_law_490 : decode mL_law.2.1 490 = .ok (.iconst 1, 1) := by decide +kernel
theorem eL_law_491 : decode mL_law.2.1 491 = .ok (.iadd, 1) := by decide +kernel
theorem eL_law_492 : decode mL_law.2.1 492 = .ok (.iaload, 1) := by decide +kernel
theorem eL_law_493 : decode mL_law.2.1 493 = .ok (.aload_n 0, 1) := by decide +kernel
theorem eL_law_494 : decode mL_law.2.1 494 = .ok (.iload_n 3, 1) := by decide +kernel
theorem eL_law_495 : decode mL_law.2.1 495 = .ok (.iconst 2, 1) := by decide +kernel
theorem eL_law_496 : decode mL_law.2.1 496 = .ok (.iadd, 1) := by decide +kernel
theorem eL_law_497 : decode mL_law.2.1 497 = .ok (.iaload, 1) := by decide +kernel
theorem eL_law_498 : decode mL_law.2.1 498 = .ok (.aload_n 0, 1) := by decide +kernel
theorem eL_law_499 : decode mL_law.2.1 499 = .ok (.iload_n 3, 1) := by decide +kernel
theorem eL_law_500 : decode mL_law.2.1 500 = .ok (.iconst 3, 1) := by decide +kernel
theorem eL_law_501 : decode mL_law.2.1 501 = .ok (.iadd, 1) := by decide +kernel
theorem eL_law_502 : decode mL_law.2.1 502 = .ok (.iaload, 1) := by decide +kernel
theorem eL_law_503 : decode mL_law.2.1 503 = .ok (.invokevirtual 47, 3) := by decide +kernel
theorem eL_law_506 : decode mL_law.2.1 506 = .ok (.aload_n 2, 1) := by decide +kernel
theorem eL_law_507 : decode mL_law.2.1 507 = .ok (.aload_n 0, 1) := by decide +kernel
theorem eL_law_508 : decode mL_law.2.1 508 = .ok (.iload_n 3, 1) := by decide +kernel
theorem eL_law_509 : decode mL_law.2.1 509 = .ok (.iconst 1, 1) := by decide +kernel
theorem eL_law_510 : decode mL_law.2.1 510 = .ok (.iadd, 1) := by decide +kernel
theorem eL_law_511 : decode mL_law.2.1 511 = .ok (.iaload, 1) := by decide +kernel
theorem eL_law_512 : decode mL_law.2.1 512 = .ok (.aload_n 0, 1) := by decide +kernel
theorem eL_law_513 : decode mL_law.2.1 513 = .ok (.iload_n 3, 1) := by decide +kernel
theorem eL_law_514 : decode mL_law.2.1 514 = .ok (.iconst 2, 1) := by decide +kernel
theorem eL_law_515 : decode mL_law.2.1 515 = .ok (.iadd, 1) := by decide +kernel
theorem eL_law_516 : decode mL_law.2.1 516 = .ok (.iaload, 1) := by decide +kernel
theorem eL_law_517 : decode mL_law.2.1 517 = .ok (.aload_n 0, 1) := by decide +kernel
theorem eL_law_518 : decode mL_law.2.1 518 = .ok (.iload_n 3, 1) := by decide +kernel
theorem eL_law_519 : decode mL_law.2.1 519 = .ok (.iconst 3, 1) := by decide +kernel
theorem eL_law_520 : decode mL_law.2.1 520 = .ok (.iadd, 1) := by decide +kernel
theorem eL_law_521 : decode mL_law.2.1 521 = .ok (.iaload, 1) := by decide +kernel
theorem eL_law_522 : decode mL_law.2.1 522 = .ok (.invokevirtual 50, 3) := by decide +kernel
theorem eL_law_525 : decode mL_law.2.1 525 = .ok (.if_icmp .eq 774, 3) := by decide +kernel
theorem eL_law_528 : decode mL_law.2.1 528 = .ok (.iconst 0, 1) := by decide +kernel
theorem eL_law_529 : decode mL_law.2.1 529 = .ok (.ireturn, 1) := by decide +kernel
theorem eL_law_530 : decode mL_law.2.1 530 = .ok (.aload_n 1, 1) := by decide +kernel
theorem eL_law_531 : decode mL_law.2.1 531 = .ok (.aload_n 0, 1) := by decide +kernel
theorem eL_law_532 : decode mL_law.2.1 532 = .ok (.iload_n 3, 1) := by decide +kernel
theorem eL_law_533 : decode mL_law.2.1 533 = .ok (.iconst 1, 1) := by decide +kernel
theorem eL_law_534 : decode mL_law.2.1 534 = .ok (.iadd, 1) := by decide +kernel
theorem eL_law_535 : decode mL_law.2.1 535 = .ok (.iaload, 1) := by decide +kernel
theorem eL_law_536 : decode mL_law.2.1 536 = .ok (.aload_n 0, 1) := by decide +kernel
theorem eL_law_537 : decode mL_law.2.1 537 = .ok (.iload_n 3, 1) := by decide +kernel
theorem eL_law_538 : decode mL_law.2.1 538 = .ok (.iconst 2, 1) := by decide +kernel
theorem eL_law_539 : decode mL_law.2.1 539 = .ok (.iadd, 1) := by decide +kernel
theorem eL_law_540 : decode mL_law.2.1 540 = .ok (.iaload, 1) := by decide +kernel
theorem eL_law_541 : decode mL_law.2.1 541 = .ok (.aload_n 0, 1) := by decide +kernel
theorem eL_law_542 : decode mL_law.2.1 542 = .ok (.iload_n 3, 1) := by decide +kernel
theorem eL_law_543 : decode mL_law.2.1 543 = .ok (.iconst 3, 1) := by decide +kernel
theorem eL_law_544 : decode mL_law.2.1 544 = .ok (.iadd, 1) := by decide +kernel
theorem eL_law_545 : decode mL_law.2.1 545 = .ok (.iaload, 1) := by decide +kernel
theorem eL_law_546 : decode mL_law.2.1 546 = .ok (.invokevirtual 51, 3) := by decide +kernel
theorem eL_law_549 : decode mL_law.2.1 549 = .ok (.aload_n 2, 1) := by decide +kernel
theorem eL_law_550 : decode mL_law.2.1 550 = .ok (.aload_n 0, 1) := by decide +kernel
theorem eL_law_551 : decode mL_law.2.1 551 = .ok (.iload_n 3, 1) := by decide +kernel
theorem eL_law_552 : decode mL_law.2.1 552 = .ok (.iconst 1, 1) := by decide +kernel
theorem eL_law_553 : decode mL_law.2.1 553 = .ok (.iadd, 1) := by decide +kernel
theorem eL_law_554 : decode mL_law.2.1 554 = .ok (.iaload, 1) := by decide +kernel
theorem eL_law_555 : decode mL_law.2.1 555 = .ok (.aload_n 0, 1) := by decide +kernel
theorem eL_law_556 : decode mL_law.2.1 556 = .ok (.iload_n 3, 1) := by decide +kernel
theorem eL_law_557 : decode mL_law.2.1 557 = .ok (.iconst 2, 1) := by decide +kernel
theorem eL_law_558 : decode mL_law.2.1 558 = .ok (.iadd, 1) := by decide +kernel
theorem eL_law_559 : decode mL_law.2.1 559 = .ok (.iaload, 1) := by decide +kernel
theorem eL_law_560 : decode mL_law.2.1 560 = .ok (.aload_n 0, 1) := by decide +kernel
theorem eL_law_561 : decode mL_law.2.1 561 = .ok (.iload_n 3, 1) := by decide +kernel
theorem eL_law_562 : decode mL_law.2.1 562 = .ok (.iconst 3, 1) := by decide +kernel
theorem eL_law_563 : decode mL_law.2.1 563 = .ok (.iadd, 1) := by decide +kernel
theorem eL_law_564 : decode mL_law.2.1 564 = .ok (.iaload, 1) := by decide +kernel
theorem eL_law_565 : decode mL_law.2.1 565 = .ok (.invokevirtual 54, 3) := by decide +kernel
theorem eL_law_568 : decode mL_law.2.1 568 = .ok (.if_icmp .eq 731, 3) := by decide +kernel
theorem eL_law_571 : decode mL_law.2.1 571 = .ok (.iconst 0, 1) := by decide +kernel
theorem eL_law_572 : decode mL_law.2.1 572 = .ok (.ireturn, 1) := by decide +kernel
theorem eL_law_573 : decode mL_law.2.1 573 = .ok (.aload_n 1, 1) := by decide +kernel
theorem eL_law_574 : decode mL_law.2.1 574 = .ok (.aload_n 0, 1) := by decide +kernel
theorem eL_law_575 : decode mL_law.2.1 575 = .ok (.iload_n 3, 1) := by decide +kernel
theorem eL_law_576 : decode mL_law.2.1 576 = .ok (.iconst 1, 1) := by decide +kernel
theorem eL_law_577 : decode mL_law.2.1 577 = .ok (.iadd, 1) := by decide +kernel
theorem eL_law_578 : decode mL_law.2.1 578 = .ok (.iaload, 1) := by decide +kernel
theorem eL_law_579 : decode mL_law.2.1 579 = .ok (.aload_n 0, 1) := by decide +kernel
theorem eL_law_580 : decode mL_law.2.1 580 = .ok (.iload_n 3, 1) := by decide +kernel
theorem eL_law_581 : decode mL_law.2.1 581 = .ok (.iconst 2, 1) := by decide +kernel
theorem eL_law_582 : decode mL_law.2.1 582 = .ok (.iadd, 1) := by decide +kernel
theorem eL_law_583 : decode mL_law.2.1 583 = .ok (.iaload, 1) := by decide +kernel
theorem eL_law_584 : decode mL_law.2.1 584 = .ok (.aload_n 0, 1) := by decide +kernel
theorem eL_law_585 : decode mL_law.2.1 585 = .ok (.iload_n 3, 1) := by decide +kernel
theorem eL_law_586 : decode mL_law.2.1 586 = .ok (.iconst 3, 1) := by decide +kernel
theorem eL_law_587 : decode mL_law.2.1 587 = .ok (.iadd, 1) := by decide +kernel
theorem eL_law_588 : decode mL_law.2.1 588 = .ok (.iaload, 1) := by decide +kernel
theorem eL_law_589 : decode mL_law.2.1 589 = .ok (.invokevirtual 55, 3) := by decide +kernel
theorem eL_law_592 : decode mL_law.2.1 592 = .ok (.aload_n 2, 1) := by decide +kernel
theorem eL_law_593 : decode mL_law.2.1 593 = .ok (.aload_n 0, 1) := by decide +kernel
theorem eL_law_594 : decode mL_law.2.1 594 = .ok (.iload_n 3, 1) := by decide +kernel
theorem eL_law_595 : decode mL_law.2.1 595 = .ok (.iconst 1, 1) := by decide +kernel
theorem eL_law_596 : decode mL_law.2.1 596 = .ok (.iadd, 1) := by decide +kernel
theorem eL_law_597 : decode mL_law.2.1 597 = .ok (.iaload, 1) := by decide +kernel
theorem eL_law_598 : decode mL_law.2.1 598 = .ok (.aload_n 0, 1) := by decide +kernel
theorem eL_law_599 : decode mL_law.2.1 599 = .ok (.iload_n 3, 1) := by decide +kernel
theorem eL_law_600 : decode mL_law.2.1 600 = .ok (.iconst 2, 1) := by decide +kernel
theorem eL_law_601 : decode mL_law.2.1 601 = .ok (.iadd, 1) := by decide +kernel
theorem eL_law_602 : decode mL_law.2.1 602 = .ok (.iaload, 1) := by decide +kernel
theorem eL_law_603 : decode mL_law.2.1 603 = .ok (.aload_n 0, 1) := by decide +kernel
theorem eL_law_604 : decode mL_law.2.1 604 = .ok (.iload_n 3, 1) := by decide +kernel
theorem eL_law_605 : decode mL_law.2.1 605 = .ok (.iconst 3, 1) := by decide +kernel
theorem eL_law_606 : decode mL_law.2.1 606 = .ok (.iadd, 1) := by decide +kernel
theorem eL_law_607 : decode mL_law.2.1 607 = .ok (.iaload, 1) := by decide +kernel
theorem eL_law_608 : decode mL_law.2.1 608 = .ok (.invokevirtual 58, 3) := by decide +kernel
theorem eL_law_611 : decode mL_law.2.1 611 = .ok (.if_icmp .eq 688, 3) := by decide +kernel
theorem eL_law_614 : decode mL_law.2.1 614 = .ok (.iconst 0, 1) := by decide +kernel
theorem eL_law_615 : decode mL_law.2.1 615 = .ok (.ireturn, 1) := by decide +kernel
theorem eL_law_616 : decode mL_law.2.1 616 = .ok (.aload_n 1, 1) := by decide +kernel
theorem eL_law_617 : decode mL_law.2.1 617 = .ok (.aload_n 0, 1) := by decide +kernel
theorem eL_law_618 : decode mL_law.2.1 618 = .ok (.iload_n 3, 1) := by decide +kernel
theorem eL_law_619 : decode mL_law.2.1 619 = .ok (.iconst 1, 1) := by decide +kernel
theorem eL_law_620 : decode mL_law.2.1 620 = .ok (.iadd, 1) := by decide +kernel
theorem eL_law_621 : decode mL_law.2.1 621 = .ok (.iaload, 1) := by decide +kernel
theorem eL_law_622 : decode mL_law.2.1 622 = .ok (.aload_n 0, 1) := by decide +kernel
theorem eL_law_623 : decode mL_law.2.1 623 = .ok (.iload_n 3, 1) := by decide +kernel
theorem eL_law_624 : decode mL_law.2.1 624 = .ok (.iconst 2, 1) := by decide +kernel
theorem eL_law_625 : decode mL_law.2.1 625 = .ok (.iadd, 1) := by decide +kernel
theorem eL_law_626 : decode mL_law.2.1 626 = .ok (.iaload, 1) := by decide +kernel
theorem eL_law_627 : decode mL_law.2.1 627 = .ok (.aload_n 0, 1) := by decide +kernel
theorem eL_law_628 : decode mL_law.2.1 628 = .ok (.iload_n 3, 1) := by decide +kernel
theorem eL_law_629 : decode mL_law.2.1 629 = .ok (.iconst 3, 1) := by decide +kernel
theorem eL_law_630 : decode mL_law.2.1 630 = .ok (.iadd, 1) := by decide +kernel
theorem eL_law_631 : decode mL_law.2.1 631 = .ok (.iaload, 1) := by decide +kernel
theorem eL_law_632 : decode mL_law.2.1 632 = .ok (.aload_n 0, 1) := by decide +kernel
theorem eL_law_633 : decode mL_law.2.1 633 = .ok (.iload_n 3, 1) := by decide +kernel
theorem eL_law_634 : decode mL_law.2.1 634 = .ok (.iconst 4, 1) := by decide +kernel
theorem eL_law_635 : decode mL_law.2.1 635 = .ok (.iadd, 1) := by decide +kernel
theorem eL_law_636 : decode mL_law.2.1 636 = .ok (.iaload, 1) := by decide +kernel
theorem eL_law_637 : decode mL_law.2.1 637 = .ok (.invokevirtual 59, 3) := by decide +kernel
theorem eL_law_640 : decode mL_law.2.1 640 = .ok (.aload_n 2, 1) := by decide +kernel
theorem eL_law_641 : decode mL_law.2.1 641 = .ok (.aload_n 0, 1) := by decide +kernel
theorem eL_law_642 : decode mL_law.2.1 642 = .ok (.iload_n 3, 1) := by decide +kernel
theorem eL_law_643 : decode mL_law.2.1 643 = .ok (.iconst 1, 1) := by decide +kernel
theorem eL_law_644 : decode mL_law.2.1 644 = .ok (.iadd, 1) := by decide +kernel
theorem eL_law_645 : decode mL_law.2.1 645 = .ok (.iaload, 1) := by decide +kernel
theorem eL_law_646 : decode mL_law.2.1 646 = .ok (.aload_n 0, 1) := by decide +kernel
theorem eL_law_647 : decode mL_law.2.1 647 = .ok (.iload_n 3, 1) := by decide +kernel
theorem eL_law_648 : decode mL_law.2.1 648 = .ok (.iconst 2, 1) := by decide +kernel
theorem eL_law_649 : decode mL_law.2.1 649 = .ok (.iadd, 1) := by decide +kernel
theorem eL_law_650 : decode mL_law.2.1 650 = .ok (.iaload, 1) := by decide +kernel
theorem eL_law_651 : decode mL_law.2.1 651 = .ok (.aload_n 0, 1) := by decide +kernel
theorem eL_law_652 : decode mL_law.2.1 652 = .ok (.iload_n 3, 1) := by decide +kernel
theorem eL_law_653 : decode mL_law.2.1 653 = .ok (.iconst 3, 1) := by decide +kernel
theorem eL_law_654 : decode mL_law.2.1 654 = .ok (.iadd, 1) := by decide +kernel
theorem eL_law_655 : decode mL_law.2.1 655 = .ok (.iaload, 1) := by decide +kernel
theorem eL_law_656 : decode mL_law.2.1 656 = .ok (.aload_n 0, 1) := by decide +kernel
theorem eL_law_657 : decode mL_law.2.1 657 = .ok (.iload_n 3, 1) := by decide +kernel
theorem eL_law_658 : decode mL_law.2.1 658 = .ok (.iconst 4, 1) := by decide +kernel
theorem eL_law_659 : decode mL_law.2.1 659 = .ok (.iadd, 1) := by decide +kernel
theorem eL_law_660 : decode mL_law.2.1 660 = .ok (.iaload, 1) := by decide +kernel
theorem eL_law_661 : decode mL_law.2.1 661 = .ok (.invokevirtual 63, 3) := by decide +kernel
theorem eL_law_664 : decode mL_law.2.1 664 = .ok (.if_icmp .eq 635, 3) := by decide +kernel
theorem eL_law_667 : decode mL_law.2.1 667 = .ok (.iconst 0, 1) := by decide +kernel
theorem eL_law_668 : decode mL_law.2.1 668 = .ok (.ireturn, 1) := by decide +kernel
theorem eL_law_669 : decode mL_law.2.1 669 = .ok (.aload_n 1, 1) := by decide +kernel
theorem eL_law_670 : decode mL_law.2.1 670 = .ok (.aload_n 0, 1) := by decide +kernel
theorem eL_law_671 : decode mL_law.2.1 671 = .ok (.iload_n 3, 1) := by decide +kernel
theorem eL_law_672 : decode mL_law.2.1 672 = .ok (.iconst 1, 1) := by decide +kernel
theorem eL_law_673 : decode mL_law.2.1 673 = .ok (.iadd, 1) := by decide +kernel
theorem eL_law_674 : decode mL_law.2.1 674 = .ok (.iaload, 1) := by decide +kernel
theorem eL_law_675 : decode mL_law.2.1 675 = .ok (.aload_n 0, 1) := by decide +kernel
theorem eL_law_676 : decode mL_law.2.1 676 = .ok (.iload_n 3, 1) := by decide +kernel
theorem eL_law_677 : decode mL_law.2.1 677 = .ok (.iconst 2, 1) := by decide +kernel
theorem eL_law_678 : decode mL_law.2.1 678 = .ok (.iadd, 1) := by decide +kernel
theorem eL_law_679 : decode mL_law.2.1 679 = .ok (.iaload, 1) := by decide +kernel
theorem eL_law_680 : decode mL_law.2.1 680 = .ok (.invokevirtual 64, 3) := by decide +kernel
theorem eL_law_683 : decode mL_law.2.1 683 = .ok (.aload_n 2, 1) := by decide +kernel
theorem eL_law_684 : decode mL_law.2.1 684 = .ok (.aload_n 0, 1) := by decide +kernel
theorem eL_law_685 : decode mL_law.2.1 685 = .ok (.iload_n 3, 1) := by decide +kernel
theorem eL_law_686 : decode mL_law.2.1 686 = .ok (.iconst 1, 1) := by decide +kernel
theorem eL_law_687 : decode mL_law.2.1 687 = .ok (.iadd, 1) := by decide +kernel
theorem eL_law_688 : decode mL_law.2.1 688 = .ok (.iaload, 1) := by decide +kernel
theorem eL_law_689 : decode mL_law.2.1 689 = .ok (.aload_n 0, 1) := by decide +kernel
theorem eL_law_690 : decode mL_law.2.1 690 = .ok (.iload_n 3, 1) := by decide +kernel
theorem eL_law_691 : decode mL_law.2.1 691 = .ok (.iconst 2, 1) := by decide +kernel
theorem eL_law_692 : decode mL_law.2.1 692 = .ok (.iadd, 1) := by decide +kernel
theorem eL_law_693 : decode mL_law.2.1 693 = .ok (.iaload, 1) := by decide +kernel
theorem eL_law_694 : decode mL_law.2.1 694 = .ok (.invokevirtual 67, 3) := by decide +kernel
theorem eL_law_697 : decode mL_law.2.1 697 = .ok (.if_icmp .eq 602, 3) := by decide +kernel
theorem eL_law_700 : decode mL_law.2.1 700 = .ok (.iconst 0, 1) := by decide +kernel
theorem eL_law_701 : decode mL_law.2.1 701 = .ok (.ireturn, 1) := by decide +kernel
theorem eL_law_702 : decode mL_law.2.1 702 = .ok (.aload_n 1, 1) := by decide +kernel
theorem eL_law_703 : decode mL_law.2.1 703 = .ok (.aload_n 0, 1) := by decide +kernel
theorem eL_law_704 : decode mL_law.2.1 704 = .ok (.iload_n 3, 1) := by decide +kernel
theorem eL_law_705 : decode mL_law.2.1 705 = .ok (.iconst 1, 1) := by decide +kernel
theorem eL_law_706 : decode mL_law.2.1 706 = .ok (.iadd, 1) := by decide +kernel
theorem eL_law_707 : decode mL_law.2.1 707 = .ok (.iaload, 1) := by decide +kernel
theorem eL_law_708 : decode mL_law.2.1 708 = .ok (.aload_n 0, 1) := by decide +kernel
theorem eL_law_709 : decode mL_law.2.1 709 = .ok (.iload_n 3, 1) := by decide +kernel
theorem eL_law_710 : decode mL_law.2.1 710 = .ok (.iconst 2, 1) := by decide +kernel
theorem eL_law_711 : decode mL_law.2.1 711 = .ok (.iadd, 1) := by decide +kernel
theorem eL_law_712 : decode mL_law.2.1 712 = .ok (.iaload, 1) := by decide +kernel
theorem eL_law_713 : decode mL_law.2.1 713 = .ok (.aload_n 0, 1) := by decide +kernel
theorem eL_law_714 : decode mL_law.2.1 714 = .ok (.iload_n 3, 1) := by decide +kernel
theorem eL_law_715 : decode mL_law.2.1 715 = .ok (.iconst 3, 1) := by decide +kernel
theorem eL_law_716 : decode mL_law.2.1 716 = .ok (.iadd, 1) := by decide +kernel
theorem eL_law_717 : decode mL_law.2.1 717 = .ok (.iaload, 1) := by decide +kernel
theorem eL_law_718 : decode mL_law.2.1 718 = .ok (.invokevirtual 68, 3) := by decide +kernel
theorem eL_law_721 : decode mL_law.2.1 721 = .ok (.aload_n 2, 1) := by decide +kernel
theorem eL_law_722 : decode mL_law.2.1 722 = .ok (.aload_n 0, 1) := by decide +kernel
theorem eL_law_723 : decode mL_law.2.1 723 = .ok (.iload_n 3, 1) := by decide +kernel
theorem eL_law_724 : decode mL_law.2.1 724 = .ok (.iconst 1, 1) := by decide +kernel
theorem eL_law_725 : decode mL_law.2.1 725 = .ok (.iadd, 1) := by decide +kernel
theorem eL_law_726 : decode mL_law.2.1 726 = .ok (.iaload, 1) := by decide +kernel
theorem eL_law_727 : decode mL_law.2.1 727 = .ok (.aload_n 0, 1) := by decide +kernel
theorem eL_law_728 : decode mL_law.2.1 728 = .ok (.iload_n 3, 1) := by decide +kernel
theorem eL_law_729 : decode mL_law.2.1 729 = .ok (.iconst 2, 1) := by decide +kernel
theorem eL_law_730 : decode mL_law.2.1 730 = .ok (.iadd, 1) := by decide +kernel
theorem eL_law_731 : decode mL_law.2.1 731 = .ok (.iaload, 1) := by decide +kernel
theorem eL_law_732 : decode mL_law.2.1 732 = .ok (.aload_n 0, 1) := by decide +kernel
theorem eL_law_733 : decode mL_law.2.1 733 = .ok (.iload_n 3, 1) := by decide +kernel
theorem eL_law_734 : decode mL_law.2.1 734 = .ok (.iconst 3, 1) := by decide +kernel
theorem eL_law_735 : decode mL_law.2.1 735 = .ok (.iadd, 1) := by decide +kernel
theorem eL_law_736 : decode mL_law.2.1 736 = .ok (.iaload, 1) := by decide +kernel
theorem eL_law_737 : decode mL_law.2.1 737 = .ok (.invokevirtual 71, 3) := by decide +kernel
theorem eL_law_740 : decode mL_law.2.1 740 = .ok (.if_icmp .eq 559, 3) := by decide +kernel
theorem eL_law_743 : decode mL_law.2.1 743 = .ok (.iconst 0, 1) := by decide +kernel
theorem eL_law_744 : decode mL_law.2.1 744 = .ok (.ireturn, 1) := by decide +kernel
theorem eL_law_745 : decode mL_law.2.1 745 = .ok (.aload_n 1, 1) := by decide +kernel
theorem eL_law_746 : decode mL_law.2.1 746 = .ok (.aload_n 0, 1) := by decide +kernel
theorem eL_law_747 : decode mL_law.2.1 747 = .ok (.iload_n 3, 1) := by decide +kernel
theorem eL_law_748 : decode mL_law.2.1 748 = .ok (.iconst 1, 1) := by decide +kernel
theorem eL_law_749 : decode mL_law.2.1 749 = .ok (.iadd, 1) := by decide +kernel
theorem eL_law_750 : decode mL_law.2.1 750 = .ok (.iaload, 1) := by decide +kernel
theorem eL_law_751 : decode mL_law.2.1 751 = .ok (.aload_n 0, 1) := by decide +kernel
theorem eL_law_752 : decode mL_law.2.1 752 = .ok (.iload_n 3, 1) := by decide +kernel
theorem eL_law_753 : decode mL_law.2.1 753 = .ok (.iconst 2, 1) := by decide +kernel
theorem eL_law_754 : decode mL_law.2.1 754 = .ok (.iadd, 1) := by decide +kernel
theorem eL_law_755 : decode mL_law.2.1 755 = .ok (.iaload, 1) := by decide +kernel
theorem eL_law_756 : decode mL_law.2.1 756 = .ok (.invokevirtual 72, 3) := by decide +kernel
theorem eL_law_759 : decode mL_law.2.1 759 = .ok (.aload_n 2, 1) := by decide +kernel
theorem eL_law_760 : decode mL_law.2.1 760 = .ok (.aload_n 0, 1) := by decide +kernel
theorem eL_law_761 : decode mL_law.2.1 761 = .ok (.iload_n 3, 1) := by decide +kernel
theorem eL_law_762 : decode mL_law.2.1 762 = .ok (.iconst 1, 1) := by decide +kernel
theorem eL_law_763 : decode mL_law.2.1 763 = .ok (.iadd, 1) := by decide +kernel
theorem eL_law_764 : decode mL_law.2.1 764 = .ok (.iaload, 1) := by decide +kernel
theorem eL_law_765 : decode mL_law.2.1 765 = .ok (.aload_n 0, 1) := by decide +kernel
theorem eL_law_766 : decode mL_law.2.1 766 = .ok (.iload_n 3, 1) := by decide +kernel
theorem eL_law_767 : decode mL_law.2.1 767 = .ok (.iconst 2, 1) := by decide +kernel
theorem eL_law_768 : decode mL_law.2.1 768 = .ok (.iadd, 1) := by decide +kernel
theorem eL_law_769 : decode mL_law.2.1 769 = .ok (.iaload, 1) := by decide +kernel
theorem eL_law_770 : decode mL_law.2.1 770 = .ok (.invokevirtual 75, 3) := by decide +kernel
theorem eL_law_773 : decode mL_law.2.1 773 = .ok (.if_icmp .eq 526, 3) := by decide +kernel
theorem eL_law_776 : decode mL_law.2.1 776 = .ok (.iconst 0, 1) := by decide +kernel
theorem eL_law_777 : decode mL_law.2.1 777 = .ok (.ireturn, 1) := by decide +kernel
theorem eL_law_778 : decode mL_law.2.1 778 = .ok (.aload_n 1, 1) := by decide +kernel
theorem eL_law_779 : decode mL_law.2.1 779 = .ok (.aload_n 0, 1) := by decide +kernel
theorem eL_law_780 : decode mL_law.2.1 780 = .ok (.iload_n 3, 1) := by decide +kernel
theorem eL_law_781 : decode mL_law.2.1 781 = .ok (.iconst 1, 1) := by decide +kernel
theorem eL_law_782 : decode mL_law.2.1 782 = .ok (.iadd, 1) := by decide +kernel
theorem eL_law_783 : decode mL_law.2.1 783 = .ok (.iaload, 1) := by decide +kernel
theorem eL_law_784 : decode mL_law.2.1 784 = .ok (.aload_n 0, 1) := by decide +kernel
theorem eL_law_785 : decode mL_law.2.1 785 = .ok (.iload_n 3, 1) := by decide +kernel
theorem eL_law_786 : decode mL_law.2.1 786 = .ok (.iconst 2, 1) := by decide +kernel
theorem eL_law_787 : decode mL_law.2.1 787 = .ok (.iadd, 1) := by decide +kernel
theorem eL_law_788 : decode mL_law.2.1 788 = .ok (.iaload, 1) := by decide +kernel
theorem eL_law_789 : decode mL_law.2.1 789 = .ok (.aload_n 0, 1) := by decide +kernel
theorem eL_law_790 : decode mL_law.2.1 790 = .ok (.iload_n 3, 1) := by decide +kernel
theorem eL_law_791 : decode mL_law.2.1 791 = .ok (.iconst 3, 1) := by decide +kernel
theorem eL_law_792 : decode mL_law.2.1 792 = .ok (.iadd, 1) := by decide +kernel
theorem eL_law_793 : decode mL_law.2.1 793 = .ok (.iaload, 1) := by decide +kernel
theorem eL_law_794 : decode mL_law.2.1 794 = .ok (.aload_n 0, 1) := by decide +kernel
theorem eL_law_795 : decode mL_law.2.1 795 = .ok (.iload_n 3, 1) := by decide +kernel
theorem eL_law_796 : decode mL_law.2.1 796 = .ok (.iconst 4, 1) := by decide +kernel
theorem eL_law_797 : decode mL_law.2.1 797 = .ok (.iadd, 1) := by decide +kernel
theorem eL_law_798 : decode mL_law.2.1 798 = .ok (.iaload, 1) := by decide +kernel
theorem eL_law_799 : decode mL_law.2.1 799 = .ok (.aload_n 0, 1) := by decide +kernel
theorem eL_law_800 : decode mL_law.2.1 800 = .ok (.iload_n 3, 1) := by decide +kernel
theorem eL_law_801 : decode mL_law.2.1 801 = .ok (.iconst 5, 1) := by decide +kernel
theorem eL_law_802 : decode mL_law.2.1 802 = .ok (.iadd, 1) := by decide +kernel
theorem eL_law_803 : decode mL_law.2.1 803 = .ok (.iaload, 1) := by decide +kernel
theorem eL_law_804 : decode mL_law.2.1 804 = .ok (.invokevirtual 76, 3) := by decide +kernel
theorem eL_law_807 : decode mL_law.2.1 807 = .ok (.aload_n 2, 1) := by decide +kernel
theorem eL_law_808 : decode mL_law.2.1 808 = .ok (.aload_n 0, 1) := by decide +kernel
theorem eL_law_809 : decode mL_law.2.1 809 = .ok (.iload_n 3, 1) := by decide +kernel
theorem eL_law_810 : decode mL_law.2.1 810 = .ok (.iconst 1, 1) := by decide +kernel
theorem eL_law_811 : decode mL_law.2.1 811 = .ok (.iadd, 1) := by decide +kernel
theorem eL_law_812 : decode mL_law.2.1 812 = .ok (.iaload, 1) := by decide +kernel
theorem eL_law_813 : decode mL_law.2.1 813 = .ok (.aload_n 0, 1) := by decide +kernel
theorem eL_law_814 : decode mL_law.2.1 814 = .ok (.iload_n 3, 1) := by decide +kernel
theorem eL_law_815 : decode mL_law.2.1 815 = .ok (.iconst 2, 1) := by decide +kernel
theorem eL_law_816 : decode mL_law.2.1 816 = .ok (.iadd, 1) := by decide +kernel
theorem eL_law_817 : decode mL_law.2.1 817 = .ok (.iaload, 1) := by decide +kernel
theorem eL_law_818 : decode mL_law.2.1 818 = .ok (.aload_n 0, 1) := by decide +kernel
theorem eL_law_819 : decode mL_law.2.1 819 = .ok (.iload_n 3, 1) := by decide +kernel
theorem eL_law_820 : decode mL_law.2.1 820 = .ok (.iconst 3, 1) := by decide +kernel
theorem eL_law_821 : decode mL_law.2.1 821 = .ok (.iadd, 1) := by decide +kernel
theorem eL_law_822 : decode mL_law.2.1 822 = .ok (.iaload, 1) := by decide +kernel
theorem eL_law_823 : decode mL_law.2.1 823 = .ok (.aload_n 0, 1) := by decide +kernel
theorem eL_law_824 : decode mL_law.2.1 824 = .ok (.iload_n 3, 1) := by decide +kernel
theorem eL_law_825 : decode mL_law.2.1 825 = .ok (.iconst 4, 1) := by decide +kernel
theorem eL_law_826 : decode mL_law.2.1 826 = .ok (.iadd, 1) := by decide +kernel
theorem eL_law_827 : decode mL_law.2.1 827 = .ok (.iaload, 1) := by decide +kernel
theorem eL_law_828 : decode mL_law.2.1 828 = .ok (.aload_n 0, 1) := by decide +kernel
theorem eL_law_829 : decode mL_law.2.1 829 = .ok (.iload_n 3, 1) := by decide +kernel
theorem eL_law_830 : decode mL_law.2.1 830 = .ok (.iconst 5, 1) := by decide +kernel
theorem eL_law_831 : decode mL_law.2.1 831 = .ok (.iadd, 1) := by decide +kernel
theorem eL_law_832 : decode mL_law.2.1 832 = .ok (.iaload, 1) := by decide +kernel
theorem eL_law_833 : decode mL_law.2.1 833 = .ok (.invokevirtual 80, 3) := by decide +kernel
theorem eL_law_836 : decode mL_law.2.1 836 = .ok (.if_icmp .eq 463, 3) := by decide +kernel
theorem eL_law_839 : decode mL_law.2.1 839 = .ok (.iconst 0, 1) := by decide +kernel
theorem eL_law_840 : decode mL_law.2.1 840 = .ok (.ireturn, 1) := by decide +kernel
theorem eL_law_841 : decode mL_law.2.1 841 = .ok (.aload_n 1, 1) := by decide +kernel
theorem eL_law_842 : decode mL_law.2.1 842 = .ok (.aload_n 0, 1) := by decide +kernel
theorem eL_law_843 : decode mL_law.2.1 843 = .ok (.iload_n 3, 1) := by decide +kernel
theorem eL_law_844 : decode mL_law.2.1 844 = .ok (.iconst 1, 1) := by decide +kernel
theorem eL_law_845 : decode mL_law.2.1 845 = .ok (.iadd, 1) := by decide +kernel
theorem eL_law_846 : decode mL_law.2.1 846 = .ok (.iaload, 1) := by decide +kernel
theorem eL_law_847 : decode mL_law.2.1 847 = .ok (.aload_n 0, 1) := by decide +kernel
theorem eL_law_848 : decode mL_law.2.1 848 = .ok (.iload_n 3, 1) := by decide +kernel
theorem eL_law_849 : decode mL_law.2.1 849 = .ok (.iconst 2, 1) := by decide +kernel
theorem eL_law_850 : decode mL_law.2.1 850 = .ok (.iadd, 1) := by decide +kernel
theorem eL_law_851 : decode mL_law.2.1 851 = .ok (.iaload, 1) := by decide +kernel
theorem eL_law_852 : decode mL_law.2.1 852 = .ok (.invokevirtual 81, 3) := by decide +kernel
theorem eL_law_855 : decode mL_law.2.1 855 = .ok (.aload_n 2, 1) := by decide +kernel
theorem eL_law_856 : decode mL_law.2.1 856 = .ok (.aload_n 0, 1) := by decide +kernel
theorem eL_law_857 : decode mL_law.2.1 857 = .ok (.iload_n 3, 1) := by decide +kernel
theorem eL_law_858 : decode mL_law.2.1 858 = .ok (.iconst 1, 1) := by decide +kernel
theorem eL_law_859 : decode mL_law.2.1 859 = .ok (.iadd, 1) := by decide +kernel
theorem eL_law_860 : decode mL_law.2.1 860 = .ok (.iaload, 1) := by decide +kernel
theorem eL_law_861 : decode mL_law.2.1 861 = .ok (.aload_n 0, 1) := by decide +kernel
theorem eL_law_862 : decode mL_law.2.1 862 = .ok (.iload_n 3, 1) := by decide +kernel
theorem eL_law_863 : decode mL_law.2.1 863 = .ok (.iconst 2, 1) := by decide +kernel
theorem eL_law_864 : decode mL_law.2.1 864 = .ok (.iadd, 1) := by decide +kernel
theorem eL_law_865 : decode mL_law.2.1 865 = .ok (.iaload, 1) := by decide +kernel
theorem eL_law_866 : decode mL_law.2.1 866 = .ok (.invokevirtual 84, 3) := by decide +kernel
theorem eL_law_869 : decode mL_law.2.1 869 = .ok (.if_icmp .eq 430, 3) := by decide +kernel
theorem eL_law_872 : decode mL_law.2.1 872 = .ok (.iconst 0, 1) := by decide +kernel
theorem eL_law_873 : decode mL_law.2.1 873 = .ok (.ireturn, 1) := by decide +kernel
theorem eL_law_874 : decode mL_law.2.1 874 = .ok (.aload_n 1, 1) := by decide +kernel
theorem eL_law_875 : decode mL_law.2.1 875 = .ok (.aload_n 0, 1) := by decide +kernel
theorem eL_law_876 : decode mL_law.2.1 876 = .ok (.iload_n 3, 1) := by decide +kernel
theorem eL_law_877 : decode mL_law.2.1 877 = .ok (.iconst 1, 1) := by decide +kernel
theorem eL_law_878 : decode mL_law.2.1 878 = .ok (.iadd, 1) := by decide +kernel
theorem eL_law_879 : decode mL_law.2.1 879 = .ok (.iaload, 1) := by decide +kernel
theorem eL_law_880 : decode mL_law.2.1 880 = .ok (.invokevirtual 85, 3) := by decide +kernel
theorem eL_law_883 : decode mL_law.2.1 883 = .ok (.aload_n 2, 1) := by decide +kernel
theorem eL_law_884 : decode mL_law.2.1 884 = .ok (.aload_n 0, 1) := by decide +kernel
theorem eL_law_885 : decode mL_law.2.1 885 = .ok (.iload_n 3, 1) := by decide +kernel
theorem eL_law_886 : decode mL_law.2.1 886 = .ok (.iconst 1, 1) := by decide +kernel
theorem eL_law_887 : decode mL_law.2.1 887 = .ok (.iadd, 1) := by decide +kernel
theorem eL_law_888 : decode mL_law.2.1 888 = .ok (.iaload, 1) := by decide +kernel
theorem eL_law_889 : decode mL_law.2.1 889 = .ok (.invokevirtual 89, 3) := by decide +kernel
theorem eL_law_892 : decode mL_law.2.1 892 = .ok (.if_icmp .eq 407, 3) := by decide +kernel
theorem eL_law_895 : decode mL_law.2.1 895 = .ok (.iconst 0, 1) := by decide +kernel
theorem eL_law_896 : decode mL_law.2.1 896 = .ok (.ireturn, 1) := by decide +kernel
theorem eL_law_897 : decode mL_law.2.1 897 = .ok (.aload_n 1, 1) := by decide +kernel
theorem eL_law_898 : decode mL_law.2.1 898 = .ok (.aload_n 0, 1) := by decide +kernel
theorem eL_law_899 : decode mL_law.2.1 899 = .ok (.iload_n 3, 1) := by decide +kernel
theorem eL_law_900 : decode mL_law.2.1 900 = .ok (.iconst 1, 1) := by decide +kernel
theorem eL_law_901 : decode mL_law.2.1 901 = .ok (.iadd, 1) := by decide +kernel
theorem eL_law_902 : decode mL_law.2.1 902 = .ok (.iaload, 1) := by decide +kernel
theorem eL_law_903 : decode mL_law.2.1 903 = .ok (.aload_n 0, 1) := by decide +kernel
theorem eL_law_904 : decode mL_law.2.1 904 = .ok (.iload_n 3, 1) := by decide +kernel
theorem eL_law_905 : decode mL_law.2.1 905 = .ok (.iconst 2, 1) := by decide +kernel
theorem eL_law_906 : decode mL_law.2.1 906 = .ok (.iadd, 1) := by decide +kernel
theorem eL_law_907 : decode mL_law.2.1 907 = .ok (.iaload, 1) := by decide +kernel
theorem eL_law_908 : decode mL_law.2.1 908 = .ok (.invokevirtual 90, 3) := by decide +kernel
theorem eL_law_911 : decode mL_law.2.1 911 = .ok (.aload_n 2, 1) := by decide +kernel
theorem eL_law_912 : decode mL_law.2.1 912 = .ok (.aload_n 0, 1) := by decide +kernel
theorem eL_law_913 : decode mL_law.2.1 913 = .ok (.iload_n 3, 1) := by decide +kernel
theorem eL_law_914 : decode mL_law.2.1 914 = .ok (.iconst 1, 1) := by decide +kernel
theorem eL_law_915 : decode mL_law.2.1 915 = .ok (.iadd, 1) := by decide +kernel
theorem eL_law_916 : decode mL_law.2.1 916 = .ok (.iaload, 1) := by decide +kernel
theorem eL_law_917 : decode mL_law.2.1 917 = .ok (.aload_n 0, 1) := by decide +kernel
theorem eL_law_918 : decode mL_law.2.1 918 = .ok (.iload_n 3, 1) := by decide +kernel
theorem eL_law_919 : decode mL_law.2.1 919 = .ok (.iconst 2, 1) := by decide +kernel
theorem eL_law_920 : decode mL_law.2.1 920 = .ok (.iadd, 1) := by decide +kernel
theorem eL_law_921 : decode mL_law.2.1 921 = .ok (.iaload, 1) := by decide +kernel
theorem eL_law_922 : decode mL_law.2.1 922 = .ok (.invokevirtual 93, 3) := by decide +kernel
theorem eL_law_925 : decode mL_law.2.1 925 = .ok (.if_icmp .eq 374, 3) := by decide +kernel
theorem eL_law_928 : decode mL_law.2.1 928 = .ok (.iconst 0, 1) := by decide +kernel
theorem eL_law_929 : decode mL_law.2.1 929 = .ok (.ireturn, 1) := by decide +kernel
theorem eL_law_930 : decode mL_law.2.1 930 = .ok (.aload_n 1, 1) := by decide +kernel
theorem eL_law_931 : decode mL_law.2.1 931 = .ok (.aload_n 0, 1) := by decide +kernel
theorem eL_law_932 : decode mL_law.2.1 932 = .ok (.iload_n 3, 1) := by decide +kernel
theorem eL_law_933 : decode mL_law.2.1 933 = .ok (.iconst 1, 1) := by decide +kernel
theorem eL_law_934 : decode mL_law.2.1 934 = .ok (.iadd, 1) := by decide +kernel
theorem eL_law_935 : decode mL_law.2.1 935 = .ok (.iaload, 1) := by decide +kernel
theorem eL_law_936 : decode mL_law.2.1 936 = .ok (.invokevirtual 94, 3) := by decide +kernel
theorem eL_law_939 : decode mL_law.2.1 939 = .ok (.aload_n 2, 1) := by decide +kernel
theorem eL_law_940 : decode mL_law.2.1 940 = .ok (.aload_n 0, 1) := by decide +kernel
theorem eL_law_941 : decode mL_law.2.1 941 = .ok (.iload_n 3, 1) := by decide +kernel
theorem eL_law_942 : decode mL_law.2.1 942 = .ok (.iconst 1, 1) := by decide +kernel
theorem eL_law_943 : decode mL_law.2.1 943 = .ok (.iadd, 1) := by decide +kernel
theorem eL_law_944 : decode mL_law.2.1 944 = .ok (.iaload, 1) := by decide +kernel
theorem eL_law_945 : decode mL_law.2.1 945 = .ok (.invokevirtual 97, 3) := by decide +kernel
theorem eL_law_948 : decode mL_law.2.1 948 = .ok (.if_icmp .eq 351, 3) := by decide +kernel
theorem eL_law_951 : decode mL_law.2.1 951 = .ok (.iconst 0, 1) := by decide +kernel
theorem eL_law_952 : decode mL_law.2.1 952 = .ok (.ireturn, 1) := by decide +kernel
theorem eL_law_953 : decode mL_law.2.1 953 = .ok (.aload_n 1, 1) := by decide +kernel
theorem eL_law_954 : decode mL_law.2.1 954 = .ok (.aload_n 0, 1) := by decide +kernel
theorem eL_law_955 : decode mL_law.2.1 955 = .ok (.iload_n 3, 1) := by decide +kernel
theorem eL_law_956 : decode mL_law.2.1 956 = .ok (.iconst 1, 1) := by decide +kernel
theorem eL_law_957 : decode mL_law.2.1 957 = .ok (.iadd, 1) := by decide +kernel
theorem eL_law_958 : decode mL_law.2.1 958 = .ok (.iaload, 1) := by decide +kernel
theorem eL_law_959 : decode mL_law.2.1 959 = .ok (.aload_n 0, 1) := by decide +kernel
theorem eL_law_960 : decode mL_law.2.1 960 = .ok (.iload_n 3, 1) := by decide +kernel
theorem eL_law_961 : decode mL_law.2.1 961 = .ok (.iconst 2, 1) := by decide +kernel
theorem eL_law_962 : decode mL_law.2.1 962 = .ok (.iadd, 1) := by decide +kernel
theorem eL_law_963 : decode mL_law.2.1 963 = .ok (.iaload, 1) := by decide +kernel
theorem eL_law_964 : decode mL_law.2.1 964 = .ok (.invokevirtual 98, 3) := by decide +kernel
theorem eL_law_967 : decode mL_law.2.1 967 = .ok (.aload_n 2, 1) := by decide +kernel
theorem eL_law_968 : decode mL_law.2.1 968 = .ok (.aload_n 0, 1) := by decide +kernel
theorem eL_law_969 : decode mL_law.2.1 969 = .ok (.iload_n 3, 1) := by decide +kernel
theorem eL_law_970 : decode mL_law.2.1 970 = .ok (.iconst 1, 1) := by decide +kernel
theorem eL_law_971 : decode mL_law.2.1 971 = .ok (.iadd, 1) := by decide +kernel
theorem eL_law_972 : decode mL_law.2.1 972 = .ok (.iaload, 1) := by decide +kernel
theorem eL_law_973 : decode mL_law.2.1 973 = .ok (.aload_n 0, 1) := by decide +kernel
theorem eL_law_974 : decode mL_law.2.1 974 = .ok (.iload_n 3, 1) := by decide +kernel
theorem eL_law_975 : decode mL_law.2.1 975 = .ok (.iconst 2, 1) := by decide +kernel
theorem eL_law_976 : decode mL_law.2.1 976 = .ok (.iadd, 1) := by decide +kernel
theorem eL_law_977 : decode mL_law.2.1 977 = .ok (.iaload, 1) := by decide +kernel
theorem eL_law_978 : decode mL_law.2.1 978 = .ok (.invokevirtual 101, 3) := by decide +kernel
theorem eL_law_981 : decode mL_law.2.1 981 = .ok (.if_icmp .eq 318, 3) := by decide +kernel
theorem eL_law_984 : decode mL_law.2.1 984 = .ok (.iconst 0, 1) := by decide +kernel
theorem eL_law_985 : decode mL_law.2.1 985 = .ok (.ireturn, 1) := by decide +kernel
theorem eL_law_986 : decode mL_law.2.1 986 = .ok (.aload_n 1, 1) := by decide +kernel
theorem eL_law_987 : decode mL_law.2.1 987 = .ok (.aload_n 0, 1) := by decide +kernel
theorem eL_law_988 : decode mL_law.2.1 988 = .ok (.iload_n 3, 1) := by decide +kernel
theorem eL_law_989 : decode mL_law.2.1 989 = .ok (.iconst 1, 1) := by decide +kernel
theorem eL_law_990 : decode mL_law.2.1 990 = .ok (.iadd, 1) := by decide +kernel
theorem eL_law_991 : decode mL_law.2.1 991 = .ok (.iaload, 1) := by decide +kernel
theorem eL_law_992 : decode mL_law.2.1 992 = .ok (.aload_n 0, 1) := by decide +kernel
theorem eL_law_993 : decode mL_law.2.1 993 = .ok (.iload_n 3, 1) := by decide +kernel
theorem eL_law_994 : decode mL_law.2.1 994 = .ok (.iconst 2, 1) := by decide +kernel
theorem eL_law_995 : decode mL_law.2.1 995 = .ok (.iadd, 1) := by decide +kernel
theorem eL_law_996 : decode mL_law.2.1 996 = .ok (.iaload, 1) := by decide +kernel
theorem eL_law_997 : decode mL_law.2.1 997 = .ok (.invokevirtual 102, 3) := by decide +kernel
theorem eL_law_1000 : decode mL_law.2.1 1000 = .ok (.aload_n 2, 1) := by decide +kernel
theorem eL_law_1001 : decode mL_law.2.1 1001 = .ok (.aload_n 0, 1) := by decide +kernel
theorem eL_law_1002 : decode mL_law.2.1 1002 = .ok (.iload_n 3, 1) := by decide +kernel
theorem eL_law_1003 : decode mL_law.2.1 1003 = .ok (.iconst 1, 1) := by decide +kernel
theorem eL_law_1004 : decode mL_law.2.1 1004 = .ok (.iadd, 1) := by decide +kernel
theorem eL_law_1005 : decode mL_law.2.1 1005 = .ok (.iaload, 1) := by decide +kernel
theorem eL_law_1006 : decode mL_law.2.1 1006 = .ok (.aload_n 0, 1) := by decide +kernel
theorem eL_law_1007 : decode mL_law.2.1 1007 = .ok (.iload_n 3, 1) := by decide +kernel
theorem eL_law_1008 : decode mL_law.2.1 1008 = .ok (.iconst 2, 1) := by decide +kernel
theorem eL_law_1009 : decode mL_law.2.1 1009 = .ok (.iadd, 1) := by decide +kernel
theorem eL_law_1010 : decode mL_law.2.1 1010 = .ok (.iaload, 1) := by decide +kernel
theorem eL_law_1011 : decode mL_law.2.1 1011 = .ok (.invokevirtual 105, 3) := by decide +kernel
theorem eL_law_1014 : decode mL_law.2.1 1014 = .ok (.if_icmp .eq 285, 3) := by decide +kernel
theorem eL_law_1017 : decode mL_law.2.1 1017 = .ok (.iconst 0, 1) := by decide +kernel
theorem eL_law_1018 : decode mL_law.2.1 1018 = .ok (.ireturn, 1) := by decide +kernel
theorem eL_law_1019 : decode mL_law.2.1 1019 = .ok (.aload_n 1, 1) := by decide +kernel
theorem eL_law_1020 : decode mL_law.2.1 1020 = .ok (.aload_n 0, 1) := by decide +kernel
theorem eL_law_1021 : decode mL_law.2.1 1021 = .ok (.iload_n 3, 1) := by decide +kernel
theorem eL_law_1022 : decode mL_law.2.1 1022 = .ok (.iconst 1, 1) := by decide +kernel
theorem eL_law_1023 : decode mL_law.2.1 1023 = .ok (.iadd, 1) := by decide +kernel
theorem eL_law_1024 : decode mL_law.2.1 1024 = .ok (.iaload, 1) := by decide +kernel
theorem eL_law_1025 : decode mL_law.2.1 1025 = .ok (.aload_n 0, 1) := by decide +kernel
theorem eL_law_1026 : decode mL_law.2.1 1026 = .ok (.iload_n 3, 1) := by decide +kernel
theorem eL_law_1027 : decode mL_law.2.1 1027 = .ok (.iconst 2, 1) := by decide +kernel
theorem eL_law_1028 : decode mL_law.2.1 1028 = .ok (.iadd, 1) := by decide +kernel
theorem eL_law_1029 : decode mL_law.2.1 1029 = .ok (.iaload, 1) := by decide +kernel
theorem eL_law_1030 : decode mL_law.2.1 1030 = .ok (.invokevirtual 106, 3) := by decide +kernel
theorem eL_law_1033 : decode mL_law.2.1 1033 = .ok (.aload_n 2, 1) := by decide +kernel
theorem eL_law_1034 : decode mL_law.2.1 1034 = .ok (.aload_n 0, 1) := by decide +kernel
theorem eL_law_1035 : decode mL_law.2.1 1035 = .ok (.iload_n 3, 1) := by decide +kernel
theorem eL_law_1036 : decode mL_law.2.1 1036 = .ok (.iconst 1, 1) := by decide +kernel
theorem eL_law_1037 : decode mL_law.2.1 1037 = .ok (.iadd, 1) := by decide +kernel
theorem eL_law_1038 : decode mL_law.2.1 1038 = .ok (.iaload, 1) := by decide +kernel
theorem eL_law_1039 : decode mL_law.2.1 1039 = .ok (.aload_n 0, 1) := by decide +kernel
theorem eL_law_1040 : decode mL_law.2.1 1040 = .ok (.iload_n 3, 1) := by decide +kernel
theorem eL_law_1041 : decode mL_law.2.1 1041 = .ok (.iconst 2, 1) := by decide +kernel
theorem eL_law_1042 : decode mL_law.2.1 1042 = .ok (.iadd, 1) := by decide +kernel
theorem eL_law_1043 : decode mL_law.2.1 1043 = .ok (.iaload, 1) := by decide +kernel
theorem eL_law_1044 : decode mL_law.2.1 1044 = .ok (.invokevirtual 109, 3) := by decide +kernel
theorem eL_law_1047 : decode mL_law.2.1 1047 = .ok (.if_icmp .eq 252, 3) := by decide +kernel
theorem eL_law_1050 : decode mL_law.2.1 1050 = .ok (.iconst 0, 1) := by decide +kernel
theorem eL_law_1051 : decode mL_law.2.1 1051 = .ok (.ireturn, 1) := by decide +kernel
theorem eL_law_1052 : decode mL_law.2.1 1052 = .ok (.aload_n 1, 1) := by decide +kernel
theorem eL_law_1053 : decode mL_law.2.1 1053 = .ok (.aload_n 0, 1) := by decide +kernel
theorem eL_law_1054 : decode mL_law.2.1 1054 = .ok (.iload_n 3, 1) := by decide +kernel
theorem eL_law_1055 : decode mL_law.2.1 1055 = .ok (.iconst 1, 1) := by decide +kernel
theorem eL_law_1056 : decode mL_law.2.1 1056 = .ok (.iadd, 1) := by decide +kernel
theorem eL_law_1057 : decode mL_law.2.1 1057 = .ok (.iaload, 1) := by decide +kernel
theorem eL_law_1058 : decode mL_law.2.1 1058 = .ok (.aload_n 0, 1) := by decide +kernel
theorem eL_law_1059 : decode mL_law.2.1 1059 = .ok (.iload_n 3, 1) := by decide +kernel
theorem eL_law_1060 : decode mL_law.2.1 1060 = .ok (.iconst 2, 1) := by decide +kernel
theorem eL_law_1061 : decode mL_law.2.1 1061 = .ok (.iadd, 1) := by decide +kernel
theorem eL_law_1062 : decode mL_law.2.1 1062 = .ok (.iaload, 1) := by decide +kernel
theorem eL_law_1063 : decode mL_law.2.1 1063 = .ok (.ifCond .eq 7, 3) := by decide +kernel
theorem eL_law_1066 : decode mL_law.2.1 1066 = .ok (.iconst 1, 1) := by decide +kernel
theorem eL_law_1067 : decode mL_law.2.1 1067 = .ok (.goto 4, 3) := by decide +kernel
theorem eL_law_1070 : decode mL_law.2.1 1070 = .ok (.iconst 0, 1) := by decide +kernel
theorem eL_law_1071 : decode mL_law.2.1 1071 = .ok (.invokevirtual 110, 3) := by decide +kernel
theorem eL_law_1074 : decode mL_law.2.1 1074 = .ok (.aload_n 2, 1) := by decide +kernel
theorem eL_law_1075 : decode mL_law.2.1 1075 = .ok (.aload_n 0, 1) := by decide +kernel
theorem eL_law_1076 : decode mL_law.2.1 1076 = .ok (.iload_n 3, 1) := by decide +kernel
theorem eL_law_1077 : decode mL_law.2.1 1077 = .ok (.iconst 1, 1) := by decide +kernel
theorem eL_law_1078 : decode mL_law.2.1 1078 = .ok (.iadd, 1) := by decide +kernel
theorem eL_law_1079 : decode mL_law.2.1 1079 = .ok (.iaload, 1) := by decide +kernel
theorem eL_law_1080 : decode mL_law.2.1 1080 = .ok (.aload_n 0, 1) := by decide +kernel
theorem eL_law_1081 : decode mL_law.2.1 1081 = .ok (.iload_n 3, 1) := by decide +kernel
theorem eL_law_1082 : decode mL_law.2.1 1082 = .ok (.iconst 2, 1) := by decide +kernel
theorem eL_law_1083 : decode mL_law.2.1 1083 = .ok (.iadd, 1) := by decide +kernel
theorem eL_law_1084 : decode mL_law.2.1 1084 = .ok (.iaload, 1) := by decide +kernel
theorem eL_law_1085 : decode mL_law.2.1 1085 = .ok (.ifCond .eq 7, 3) := by decide +kernel
theorem eL_law_1088 : decode mL_law.2.1 1088 = .ok (.iconst 1, 1) := by decide +kernel
theorem eL_law_1089 : decode mL_law.2.1 1089 = .ok (.goto 4, 3) := by decide +kernel
theorem eL_law_1092 : decode mL_law.2.1 1092 = .ok (.iconst 0, 1) := by decide +kernel
theorem eL_law_1093 : decode mL_law.2.1 1093 = .ok (.invokevirtual 114, 3) := by decide +kernel
theorem eL_law_1096 : decode mL_law.2.1 1096 = .ok (.if_icmp .eq 203, 3) := by decide +kernel
theorem eL_law_1099 : decode mL_law.2.1 1099 = .ok (.iconst 0, 1) := by decide +kernel
theorem eL_law_1100 : decode mL_law.2.1 1100 = .ok (.ireturn, 1) := by decide +kernel
theorem eL_law_1101 : decode mL_law.2.1 1101 = .ok (.aload_n 1, 1) := by decide +kernel
theorem eL_law_1102 : decode mL_law.2.1 1102 = .ok (.aload_n 0, 1) := by decide +kernel
theorem eL_law_1103 : decode mL_law.2.1 1103 = .ok (.iload_n 3, 1) := by decide +kernel
theorem eL_law_1104 : decode mL_law.2.1 1104 = .ok (.iconst 1, 1) := by decide +kernel
theorem eL_law_1105 : decode mL_law.2.1 1105 = .ok (.iadd, 1) := by decide +kernel
theorem eL_law_1106 : decode mL_law.2.1 1106 = .ok (.iaload, 1) := by decide +kernel
theorem eL_law_1107 : decode mL_law.2.1 1107 = .ok (.aload_n 0, 1) := by decide +kernel
theorem eL_law_1108 : decode mL_law.2.1 1108 = .ok (.iload_n 3, 1) := by decide +kernel
theorem eL_law_1109 : decode mL_law.2.1 1109 = .ok (.iconst 2, 1) := by decide +kernel
theorem eL_law_1110 : decode mL_law.2.1 1110 = .ok (.iadd, 1) := by decide +kernel
theorem eL_law_1111 : decode mL_law.2.1 1111 = .ok (.iaload, 1) := by decide +kernel
theorem eL_law_1112 : decode mL_law.2.1 1112 = .ok (.invokevirtual 115, 3) := by decide +kernel
theorem eL_law_1115 : decode mL_law.2.1 1115 = .ok (.aload_n 2, 1) := by decide +kernel
theorem eL_law_1116 : decode mL_law.2.1 1116 = .ok (.aload_n 0, 1) := by decide +kernel
theorem eL_law_1117 : decode mL_law.2.1 1117 = .ok (.iload_n 3, 1) := by decide +kernel
theorem eL_law_1118 : decode mL_law.2.1 1118 = .ok (.iconst 1, 1) := by decide +kernel
theorem eL_law_1119 : decode mL_law.2.1 1119 = .ok (.iadd, 1) := by decide +kernel
theorem eL_law_1120 : decode mL_law.2.1 1120 = .ok (.iaload, 1) := by decide +kernel
theorem eL_law_1121 : decode mL_law.2.1 1121 = .ok (.aload_n 0, 1) := by decide +kernel
theorem eL_law_1122 : decode mL_law.2.1 1122 = .ok (.iload_n 3, 1) := by decide +kernel
theorem eL_law_1123 : decode mL_law.2.1 1123 = .ok (.iconst 2, 1) := by decide +kernel
theorem eL_law_1124 : decode mL_law.2.1 1124 = .ok (.iadd, 1) := by decide +kernel
theorem eL_law_1125 : decode mL_law.2.1 1125 = .ok (.iaload, 1) := by decide +kernel
theorem eL_law_1126 : decode mL_law.2.1 1126 = .ok (.invokevirtual 118, 3) := by decide +kernel
theorem eL_law_1129 : decode mL_law.2.1 1129 = .ok (.if_icmp .eq 170, 3) := by decide +kernel
theorem eL_law_1132 : decode mL_law.2.1 1132 = .ok (.iconst 0, 1) := by decide +kernel
theorem eL_law_1133 : decode mL_law.2.1 1133 = .ok (.ireturn, 1) := by decide +kernel
theorem eL_law_1134 : decode mL_law.2.1 1134 = .ok (.aload_n 1, 1) := by decide +kernel
theorem eL_law_1135 : decode mL_law.2.1 1135 = .ok (.aload_n 0, 1) := by decide +kernel
theorem eL_law_1136 : decode mL_law.2.1 1136 = .ok (.iload_n 3, 1) := by decide +kernel
theorem eL_law_1137 : decode mL_law.2.1 1137 = .ok (.iconst 1, 1) := by decide +kernel
theorem eL_law_1138 : decode mL_law.2.1 1138 = .ok (.iadd, 1) := by decide +kernel
theorem eL_law_1139 : decode mL_law.2.1 1139 = .ok (.iaload, 1) := by decide +kernel
theorem eL_law_1140 : decode mL_law.2.1 1140 = .ok (.aload_n 0, 1) := by decide +kernel
theorem eL_law_1141 : decode mL_law.2.1 1141 = .ok (.iload_n 3, 1) := by decide +kernel
theorem eL_law_1142 : decode mL_law.2.1 1142 = .ok (.iconst 2, 1) := by decide +kernel
theorem eL_law_1143 : decode mL_law.2.1 1143 = .ok (.iadd, 1) := by decide +kernel
theorem eL_law_1144 : decode mL_law.2.1 1144 = .ok (.iaload, 1) := by decide +kernel
theorem eL_law_1145 : decode mL_law.2.1 1145 = .ok (.invokevirtual 119, 3) := by decide +kernel
theorem eL_law_1148 : decode mL_law.2.1 1148 = .ok (.aload_n 2, 1) := by decide +kernel
theorem eL_law_1149 : decode mL_law.2.1 1149 = .ok (.aload_n 0, 1) := by decide +kernel
theorem eL_law_1150 : decode mL_law.2.1 1150 = .ok (.iload_n 3, 1) := by decide +kernel
theorem eL_law_1151 : decode mL_law.2.1 1151 = .ok (.iconst 1, 1) := by decide +kernel
theorem eL_law_1152 : decode mL_law.2.1 1152 = .ok (.iadd, 1) := by decide +kernel
theorem eL_law_1153 : decode mL_law.2.1 1153 = .ok (.iaload, 1) := by decide +kernel
theorem eL_law_1154 : decode mL_law.2.1 1154 = .ok (.aload_n 0, 1) := by decide +kernel
theorem eL_law_1155 : decode mL_law.2.1 1155 = .ok (.iload_n 3, 1) := by decide +kernel
theorem eL_law_1156 : decode mL_law.2.1 1156 = .ok (.iconst 2, 1) := by decide +kernel
theorem eL_law_1157 : decode mL_law.2.1 1157 = .ok (.iadd, 1) := by decide +kernel
theorem eL_law_1158 : decode mL_law.2.1 1158 = .ok (.iaload, 1) := by decide +kernel
theorem eL_law_1159 : decode mL_law.2.1 1159 = .ok (.invokevirtual 122, 3) := by decide +kernel
theorem eL_law_1162 : decode mL_law.2.1 1162 = .ok (.if_icmp .eq 137, 3) := by decide +kernel
theorem eL_law_1165 : decode mL_law.2.1 1165 = .ok (.iconst 0, 1) := by decide +kernel
theorem eL_law_1166 : decode mL_law.2.1 1166 = .ok (.ireturn, 1) := by decide +kernel
theorem eL_law_1167 : decode mL_law.2.1 1167 = .ok (.aload_n 1, 1) := by decide +kernel
theorem eL_law_1168 : decode mL_law.2.1 1168 = .ok (.aload_n 0, 1) := by decide +kernel
theorem eL_law_1169 : decode mL_law.2.1 1169 = .ok (.iload_n 3, 1) := by decide +kernel
theorem eL_law_1170 : decode mL_law.2.1 1170 = .ok (.iconst 1, 1) := by decide +kernel
theorem eL_law_1171 : decode mL_law.2.1 1171 = .ok (.iadd, 1) := by decide +kernel
theorem eL_law_1172 : decode mL_law.2.1 1172 = .ok (.iaload, 1) := by decide +kernel
theorem eL_law_1173 : decode mL_law.2.1 1173 = .ok (.invokevirtual 123, 3) := by decide +kernel
theorem eL_law_1176 : decode mL_law.2.1 1176 = .ok (.aload_n 2, 1) := by decide +kernel
theorem eL_law_1177 : decode mL_law.2.1 1177 = .ok (.aload_n 0, 1) := by decide +kernel
theorem eL_law_1178 : decode mL_law.2.1 1178 = .ok (.iload_n 3, 1) := by decide +kernel
theorem eL_law_1179 : decode mL_law.2.1 1179 = .ok (.iconst 1, 1) := by decide +kernel
theorem eL_law_1180 : decode mL_law.2.1 1180 = .ok (.iadd, 1) := by decide +kernel
theorem eL_law_1181 : decode mL_law.2.1 1181 = .ok (.iaload, 1) := by decide +kernel
theorem eL_law_1182 : decode mL_law.2.1 1182 = .ok (.invokevirtual 127, 3) := by decide +kernel
theorem eL_law_1185 : decode mL_law.2.1 1185 = .ok (.lcmp, 1) := by decide +kernel
theorem eL_law_1186 : decode mL_law.2.1 1186 = .ok (.ifCond .eq 113, 3) := by decide +kernel
theorem eL_law_1189 : decode mL_law.2.1 1189 = .ok (.iconst 0, 1) := by decide +kernel
theorem eL_law_1190 : decode mL_law.2.1 1190 = .ok (.ireturn, 1) := by decide +kernel
theorem eL_law_1191 : decode mL_law.2.1 1191 = .ok (.aload_n 1, 1) := by decide +kernel
theorem eL_law_1192 : decode mL_law.2.1 1192 = .ok (.invokevirtual 128, 3) := by decide +kernel
theorem eL_law_1195 : decode mL_law.2.1 1195 = .ok (.aload_n 2, 1) := by decide +kernel
theorem eL_law_1196 : decode mL_law.2.1 1196 = .ok (.invokevirtual 132, 3) := by decide +kernel
theorem eL_law_1199 : decode mL_law.2.1 1199 = .ok (.if_icmp .eq 100, 3) := by decide +kernel
theorem eL_law_1202 : decode mL_law.2.1 1202 = .ok (.iconst 0, 1) := by decide +kernel
theorem eL_law_1203 : decode mL_law.2.1 1203 = .ok (.ireturn, 1) := by decide +kernel
theorem eL_law_1204 : decode mL_law.2.1 1204 = .ok (.aload_n 1, 1) := by decide +kernel
theorem eL_law_1205 : decode mL_law.2.1 1205 = .ok (.invokevirtual 133, 3) := by decide +kernel
theorem eL_law_1208 : decode mL_law.2.1 1208 = .ok (.aload_n 2, 1) := by decide +kernel
theorem eL_law_1209 : decode mL_law.2.1 1209 = .ok (.invokevirtual 136, 3) := by decide +kernel
theorem eL_law_1212 : decode mL_law.2.1 1212 = .ok (.if_icmp .eq 87, 3) := by decide +kernel
theorem eL_law_1215 : decode mL_law.2.1 1215 = .ok (.iconst 0, 1) := by decide +kernel
theorem eL_law_1216 : decode mL_law.2.1 1216 = .ok (.ireturn, 1) := by decide +kernel
theorem eL_law_1217 : decode mL_law.2.1 1217 = .ok (.aload_n 1, 1) := by decide +kernel
theorem eL_law_1218 : decode mL_law.2.1 1218 = .ok (.aload_n 0, 1) := by decide +kernel
theorem eL_law_1219 : decode mL_law.2.1 1219 = .ok (.iload_n 3, 1) := by decide +kernel
theorem eL_law_1220 : decode mL_law.2.1 1220 = .ok (.iconst 1, 1) := by decide +kernel
theorem eL_law_1221 : decode mL_law.2.1 1221 = .ok (.iadd, 1) := by decide +kernel
theorem eL_law_1222 : decode mL_law.2.1 1222 = .ok (.iaload, 1) := by decide +kernel
theorem eL_law_1223 : decode mL_law.2.1 1223 = .ok (.invokevirtual 137, 3) := by decide +kernel
theorem eL_law_1226 : decode mL_law.2.1 1226 = .ok (.aload_n 2, 1) := by decide +kernel
theorem eL_law_1227 : decode mL_law.2.1 1227 = .ok (.aload_n 0, 1) := by decide +kernel
theorem eL_law_1228 : decode mL_law.2.1 1228 = .ok (.iload_n 3, 1) := by decide +kernel
theorem eL_law_1229 : decode mL_law.2.1 1229 = .ok (.iconst 1, 1) := by decide +kernel
theorem eL_law_1230 : decode mL_law.2.1 1230 = .ok (.iadd, 1) := by decide +kernel
theorem eL_law_1231 : decode mL_law.2.1 1231 = .ok (.iaload, 1) := by decide +kernel
theorem eL_law_1232 : decode mL_law.2.1 1232 = .ok (.invokevirtual 140, 3) := by decide +kernel
theorem eL_law_1235 : decode mL_law.2.1 1235 = .ok (.if_icmp .eq 64, 3) := by decide +kernel
theorem eL_law_1238 : decode mL_law.2.1 1238 = .ok (.iconst 0, 1) := by decide +kernel
theorem eL_law_1239 : decode mL_law.2.1 1239 = .ok (.ireturn, 1) := by decide +kernel
theorem eL_law_1240 : decode mL_law.2.1 1240 = .ok (.aload_n 1, 1) := by decide +kernel
theorem eL_law_1241 : decode mL_law.2.1 1241 = .ok (.aload_n 0, 1) := by decide +kernel
theorem eL_law_1242 : decode mL_law.2.1 1242 = .ok (.iload_n 3, 1) := by decide +kernel
theorem eL_law_1243 : decode mL_law.2.1 1243 = .ok (.iconst 1, 1) := by decide +kernel
theorem eL_law_1244 : decode mL_law.2.1 1244 = .ok (.iadd, 1) := by decide +kernel
theorem eL_law_1245 : decode mL_law.2.1 1245 = .ok (.iaload, 1) := by decide +kernel
theorem eL_law_1246 : decode mL_law.2.1 1246 = .ok (.invokevirtual 141, 3) := by decide +kernel
theorem eL_law_1249 : decode mL_law.2.1 1249 = .ok (.aload_n 2, 1) := by decide +kernel
theorem eL_law_1250 : decode mL_law.2.1 1250 = .ok (.aload_n 0, 1) := by decide +kernel
theorem eL_law_1251 : decode mL_law.2.1 1251 = .ok (.iload_n 3, 1) := by decide +kernel
theorem eL_law_1252 : decode mL_law.2.1 1252 = .ok (.iconst 1, 1) := by decide +kernel
theorem eL_law_1253 : decode mL_law.2.1 1253 = .ok (.iadd, 1) := by decide +kernel
theorem eL_law_1254 : decode mL_law.2.1 1254 = .ok (.iaload, 1) := by decide +kernel
theorem eL_law_1255 : decode mL_law.2.1 1255 = .ok (.invokevirtual 144, 3) := by decide +kernel
theorem eL_law_1258 : decode mL_law.2.1 1258 = .ok (.if_icmp .eq 41, 3) := by decide +kernel
theorem eL_law_1261 : decode mL_law.2.1 1261 = .ok (.iconst 0, 1) := by decide +kernel
theorem eL_law_1262 : decode mL_law.2.1 1262 = .ok (.ireturn, 1) := by decide +kernel
theorem eL_law_1263 : decode mL_law.2.1 1263 = .ok (.aload_n 1, 1) := by decide +kernel
theorem eL_law_1264 : decode mL_law.2.1 1264 = .ok (.invokevirtual 145, 3) := by decide +kernel
theorem eL_law_1267 : decode mL_law.2.1 1267 = .ok (.aload_n 2, 1) := by decide +kernel
theorem eL_law_1268 : decode mL_law.2.1 1268 = .ok (.invokevirtual 149, 3) := by decide +kernel
theorem eL_law_1271 : decode mL_law.2.1 1271 = .ok (.if_icmp .eq 28, 3) := by decide +kernel
theorem eL_law_1274 : decode mL_law.2.1 1274 = .ok (.iconst 0, 1) := by decide +kernel
theorem eL_law_1275 : decode mL_law.2.1 1275 = .ok (.ireturn, 1) := by decide +kernel
theorem eL_law_1276 : decode mL_law.2.1 1276 = .ok (.aload_n 1, 1) := by decide +kernel
theorem eL_law_1277 : decode mL_law.2.1 1277 = .ok (.aload_n 0, 1) := by decide +kernel
theorem eL_law_1278 : decode mL_law.2.1 1278 = .ok (.iload_n 3, 1) := by decide +kernel
theorem eL_law_1279 : decode mL_law.2.1 1279 = .ok (.iconst 1, 1) := by decide +kernel
theorem eL_law_1280 : decode mL_law.2.1 1280 = .ok (.iadd, 1) := by decide +kernel
theorem eL_law_1281 : decode mL_law.2.1 1281 = .ok (.iaload, 1) := by decide +kernel
theorem eL_law_1282 : decode mL_law.2.1 1282 = .ok (.invokevirtual 150, 3) := by decide +kernel
theorem eL_law_1285 : decode mL_law.2.1 1285 = .ok (.aload_n 2, 1) := by decide +kernel
theorem eL_law_1286 : decode mL_law.2.1 1286 = .ok (.aload_n 0, 1) := by decide +kernel
theorem eL_law_1287 : decode mL_law.2.1 1287 = .ok (.iload_n 3, 1) := by decide +kernel
theorem eL_law_1288 : decode mL_law.2.1 1288 = .ok (.iconst 1, 1) := by decide +kernel
theorem eL_law_1289 : decode mL_law.2.1 1289 = .ok (.iadd, 1) := by decide +kernel
theorem eL_law_1290 : decode mL_law.2.1 1290 = .ok (.iaload, 1) := by decide +kernel
theorem eL_law_1291 : decode mL_law.2.1 1291 = .ok (.invokevirtual 153, 3) := by decide +kernel
theorem eL_law_1294 : decode mL_law.2.1 1294 = .ok (.if_icmp .eq 5, 3) := by decide +kernel
theorem eL_law_1297 : decode mL_law.2.1 1297 = .ok (.iconst 0, 1) := by decide +kernel
theorem eL_law_1298 : decode mL_law.2.1 1298 = .ok (.ireturn, 1) := by decide +kernel
theorem eL_law_1299 : decode mL_law.2.1 1299 = .ok (.iinc 3 6, 3) := by decide +kernel
theorem eL_law_1302 : decode mL_law.2.1 1302 = .ok (.goto (-1284), 3) := by decide +kernel
theorem eL_law_1305 : decode mL_law.2.1 1305 = .ok (.iconst 1, 1) := by decide +kernel
theorem eL_law_1306 : decode mL_law.2.1 1306 = .ok (.ireturn, 1) := by decide +kernel
