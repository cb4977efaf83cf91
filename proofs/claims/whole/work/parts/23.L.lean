theorem dL_law_0 : decode cL_law 0 = .ok (.new 7, 3) := by decide +kernel
theorem dL_law_3 : decode cL_law 3 = .ok (.dup, 1) := by decide +kernel
theorem dL_law_4 : decode cL_law 4 = .ok (.invokespecial 9, 3) := by decide +kernel
theorem dL_law_7 : decode cL_law 7 = .ok (.astore_n 1, 1) := by decide +kernel
theorem dL_law_8 : decode cL_law 8 = .ok (.new 10, 3) := by decide +kernel
theorem dL_law_11 : decode cL_law 11 = .ok (.dup, 1) := by decide +kernel
theorem dL_law_12 : decode cL_law 12 = .ok (.invokespecial 12, 3) := by decide +kernel
theorem dL_law_15 : decode cL_law 15 = .ok (.astore_n 2, 1) := by decide +kernel
theorem dL_law_16 : decode cL_law 16 = .ok (.iconst 0, 1) := by decide +kernel
theorem dL_law_17 : decode cL_law 17 = .ok (.istore_n 3, 1) := by decide +kernel
theorem dL_law_18 : decode cL_law 18 = .ok (.iload_n 3, 1) := by decide +kernel
theorem dL_law_19 : decode cL_law 19 = .ok (.aload_n 0, 1) := by decide +kernel
theorem dL_law_20 : decode cL_law 20 = .ok (.arraylength, 1) := by decide +kernel
theorem dL_law_21 : decode cL_law 21 = .ok (.bipush 8, 2) := by decide +kernel
theorem dL_law_23 : decode cL_law 23 = .ok (.isub, 1) := by decide +kernel
theorem dL_law_24 : decode cL_law 24 = .ok (.if_icmp .gt 1124, 3) := by decide +kernel
theorem dL_law_27 : decode cL_law 27 = .ok (.aload_n 0, 1) := by decide +kernel
theorem dL_law_28 : decode cL_law 28 = .ok (.iload_n 3, 1) := by decide +kernel
theorem dL_law_29 : decode cL_law 29 = .ok (.iaload, 1) := by decide +kernel
theorem dL_law_30 : decode cL_law 30 = .ok (.bipush 31, 2) := by decide +kernel
theorem dL_law_32 : decode cL_law 32 = .ok (.iand, 1) := by decide +kernel
theorem dL_law_33 : decode cL_law 33 = .ok (.tableswitch 1109 0 27 #[127, 190, 297, 351, 410, 469, 492, 515, 528, 541, 564, 577, 620, 663, 696, 719, 752, 795, 828, 852, 905, 938, 971, 984, 997, 1030, 1053, 1076], 127) := by decide +kernel
theorem dL_law_160 : decode cL_law 160 = .ok (.aload_n 1, 1) := by decide +kernel
theorem dL_law_161 : decode cL_law 161 = .ok (.aload_n 0, 1) := by decide +kernel
theorem dL_law_162 : decode cL_law 162 = .ok (.iload_n 3, 1) := by decide +kernel
theorem dL_law_163 : decode cL_law 163 = .ok (.iconst 1, 1) := by decide +kernel
theorem dL_law_164 : decode cL_law 164 = .ok (.iadd, 1) := by decide +kernel
theorem dL_law_165 : decode cL_law 165 = .ok (.iaload, 1) := by decide +kernel
theorem dL_law_166 : decode cL_law 166 = .ok (.aload_n 0, 1) := by decide +kernel
theorem dL_law_167 : decode cL_law 167 = .ok (.iload_n 3, 1) := by decide +kernel
theorem dL_law_168 : decode cL_law 168 = .ok (.iconst 2, 1) := by decide +kernel
theorem dL_law_169 : decode cL_law 169 = .ok (.iadd, 1) := by decide +kernel
theorem dL_law_170 : decode cL_law 170 = .ok (.iaload, 1) := by decide +kernel
theorem dL_law_171 : decode cL_law 171 = .ok (.i2l, 1) := by decide +kernel
theorem dL_law_172 : decode cL_law 172 = .ok (.bipush 32, 2) := by decide +kernel
theorem dL_law_174 : decode cL_law 174 = .ok (.lshl, 1) := by decide +kernel
theorem dL_law_175 : decode cL_law 175 = .ok (.aload_n 0, 1) := by decide +kernel
theorem dL_law_176 : decode cL_law 176 = .ok (.iload_n 3, 1) := by decide +kernel
theorem dL_law_177 : decode cL_law 177 = .ok (.iconst 3, 1) := by decide +kernel
theorem dL_law_178 : decode cL_law 178 = .ok (.iadd, 1) := by decide +kernel
theorem dL_law_179 : decode cL_law 179 = .ok (.iaload, 1) := by decide +kernel
theorem dL_law_180 : decode cL_law 180 = .ok (.i2l, 1) := by decide +kernel
theorem dL_law_181 : decode cL_law 181 = .ok (.ldc2_w 13, 3) := by decide +kernel
theorem dL_law_184 : decode cL_law 184 = .ok (.land, 1) := by decide +kernel
theorem dL_law_185 : decode cL_law 185 = .ok (.lor, 1) := by decide +kernel
theorem dL_law_186 : decode cL_law 186 = .ok (.invokevirtual 15, 3) := by decide +kernel
theorem dL_law_189 : decode cL_law 189 = .ok (.aload_n 2, 1) := by decide +kernel
theorem dL_law_190 : decode cL_law 190 = .ok (.aload_n 0, 1) := by decide +kernel
theorem dL_law_191 : decode cL_law 191 = .ok (.iload_n 3, 1) := by decide +kernel
theorem dL_law_192 : decode cL_law 192 = .ok (.iconst 1, 1) := by decide +kernel
theorem dL_law_193 : decode cL_law 193 = .ok (.iadd, 1) := by decide +kernel
theorem dL_law_194 : decode cL_law 194 = .ok (.iaload, 1) := by decide +kernel
theorem dL_law_195 : decode cL_law 195 = .ok (.aload_n 0, 1) := by decide +kernel
theorem dL_law_196 : decode cL_law 196 = .ok (.iload_n 3, 1) := by decide +kernel
theorem dL_law_197 : decode cL_law 197 = .ok (.iconst 2, 1) := by decide +kernel
theorem dL_law_198 : decode cL_law 198 = .ok (.iadd, 1) := by decide +kernel
theorem dL_law_199 : decode cL_law 199 = .ok (.iaload, 1) := by decide +kernel
theorem dL_law_200 : decode cL_law 200 = .ok (.i2l, 1) := by decide +kernel
theorem dL_law_201 : decode cL_law 201 = .ok (.bipush 32, 2) := by decide +kernel
theorem dL_law_203 : decode cL_law 203 = .ok (.lshl, 1) := by decide +kernel
theorem dL_law_204 : decode cL_law 204 = .ok (.aload_n 0, 1) := by decide +kernel
theorem dL_law_205 : decode cL_law 205 = .ok (.iload_n 3, 1) := by decide +kernel
theorem dL_law_206 : decode cL_law 206 = .ok (.iconst 3, 1) := by decide +kernel
theorem dL_law_207 : decode cL_law 207 = .ok (.iadd, 1) := by decide +kernel
theorem dL_law_208 : decode cL_law 208 = .ok (.iaload, 1) := by decide +kernel
theorem dL_law_209 : decode cL_law 209 = .ok (.i2l, 1) := by decide +kernel
theorem dL_law_210 : decode cL_law 210 = .ok (.ldc2_w 13, 3) := by decide +kernel
theorem dL_law_213 : decode cL_law 213 = .ok (.land, 1) := by decide +kernel
theorem dL_law_214 : decode cL_law 214 = .ok (.lor, 1) := by decide +kernel
theorem dL_law_215 : decode cL_law 215 = .ok (.invokevirtual 19, 3) := by decide +kernel
theorem dL_law_218 : decode cL_law 218 = .ok (.if_icmp .eq 924, 3) := by decide +kernel
theorem dL_law_221 : decode cL_law 221 = .ok (.iconst 0, 1) := by decide +kernel
theorem dL_law_222 : decode cL_law 222 = .ok (.ireturn, 1) := by decide +kernel
theorem dL_law_223 : decode cL_law 223 = .ok (.aload_n 1, 1) := by decide +kernel
theorem dL_law_224 : decode cL_law 224 = .ok (.aload_n 0, 1) := by decide +kernel
theorem dL_law_225 : decode cL_law 225 = .ok (.iload_n 3, 1) := by decide +kernel
theorem dL_law_226 : decode cL_law 226 = .ok (.iconst 1, 1) := by decide +kernel
theorem dL_law_227 : decode cL_law 227 = .ok (.iadd, 1) := by decide +kernel
theorem dL_law_228 : decode cL_law 228 = .ok (.iaload, 1) := by decide +kernel
theorem dL_law_229 : decode cL_law 229 = .ok (.aload_n 0, 1) := by decide +kernel
theorem dL_law_230 : decode cL_law 230 = .ok (.iload_n 3, 1) := by decide +kernel
theorem dL_law_231 : decode cL_law 231 = .ok (.iconst 2, 1) := by decide +kernel
theorem dL_law_232 : decode cL_law 232 = .ok (.iadd, 1) := by decide +kernel
theorem dL_law_233 : decode cL_law 233 = .ok (.iaload, 1) := by decide +kernel
theorem dL_law_234 : decode cL_law 234 = .ok (.aload_n 0, 1) := by decide +kernel
theorem dL_law_235 : decode cL_law 235 = .ok (.iload_n 3, 1) := by decide +kernel
theorem dL_law_236 : decode cL_law 236 = .ok (.iconst 3, 1) := by decide +kernel
theorem dL_law_237 : decode cL_law 237 = .ok (.iadd, 1) := by decide +kernel
theorem dL_law_238 : decode cL_law 238 = .ok (.iaload, 1) := by decide +kernel
theorem dL_law_239 : decode cL_law 239 = .ok (.aload_n 0, 1) := by decide +kernel
theorem dL_law_240 : decode cL_law 240 = .ok (.iload_n 3, 1) := by decide +kernel
theorem dL_law_241 : decode cL_law 241 = .ok (.iconst 4, 1) := by decide +kernel
theorem dL_law_242 : decode cL_law 242 = .ok (.iadd, 1) := by decide +kernel
theorem dL_law_243 : decode cL_law 243 = .ok (.iaload, 1) := by decide +kernel
theorem dL_law_244 : decode cL_law 244 = .ok (.aload_n 0, 1) := by decide +kernel
theorem dL_law_245 : decode cL_law 245 = .ok (.iload_n 3, 1) := by decide +kernel
theorem dL_law_246 : decode cL_law 246 = .ok (.iconst 5, 1) := by decide +kernel
theorem dL_law_247 : decode cL_law 247 = .ok (.iadd, 1) := by decide +kernel
theorem dL_law_248 : decode cL_law 248 = .ok (.iaload, 1) := by decide +kernel
theorem dL_law_249 : decode cL_law 249 = .ok (.aload_n 0, 1) := by decide +kernel
theorem dL_law_250 : decode cL_law 250 = .ok (.iload_n 3, 1) := by decide +kernel
theorem dL_law_251 : decode cL_law 251 = .ok (.bipush 6, 2) := by decide +kernel
theorem dL_law_253 : decode cL_law 253 = .ok (.iadd, 1) := by decide +kernel
theorem dL_law_254 : decode cL_law 254 = .ok (.iaload, 1) := by decide +kernel
theorem dL_law_255 : decode cL_law 255 = .ok (.i2l, 1) := by decide +kernel
theorem dL_law_256 : decode cL_law 256 = .ok (.bipush 32, 2) := by decide +kernel
theorem dL_law_258 : decode cL_law 258 = .ok (.lshl, 1) := by decide +kernel
theorem dL_law_259 : decode cL_law 259 = .ok (.aload_n 0, 1) := by decide +kernel
theorem dL_law_260 : decode cL_law 260 = .ok (.iload_n 3, 1) := by decide +kernel
theorem dL_law_261 : decode cL_law 261 = .ok (.bipush 7, 2) := by decide +kernel
theorem dL_law_263 : decode cL_law 263 = .ok (.iadd, 1) := by decide +kernel
theorem dL_law_264 : decode cL_law 264 = .ok (.iaload, 1) := by decide +kernel
theorem dL_law_265 : decode cL_law 265 = .ok (.i2l, 1) := by decide +kernel
theorem dL_law_266 : decode cL_law 266 = .ok (.ldc2_w 13, 3) := by decide +kernel
theorem dL_law_269 : decode cL_law 269 = .ok (.land, 1) := by decide +kernel
theorem dL_law_270 : decode cL_law 270 = .ok (.lor, 1) := by decide +kernel
theorem dL_law_271 : decode cL_law 271 = .ok (.invokevirtual 20, 3) := by decide +kernel
theorem dL_law_274 : decode cL_law 274 = .ok (.aload_n 2, 1) := by decide +kernel
theorem dL_law_275 : decode cL_law 275 = .ok (.aload_n 0, 1) := by decide +kernel
theorem dL_law_276 : decode cL_law 276 = .ok (.iload_n 3, 1) := by decide +kernel
theorem dL_law_277 : decode cL_law 277 = .ok (.iconst 1, 1) := by decide +kernel
theorem dL_law_278 : decode cL_law 278 = .ok (.iadd, 1) := by decide +kernel
theorem dL_law_279 : decode cL_law 279 = .ok (.iaload, 1) := by decide +kernel
theorem dL_law_280 : decode cL_law 280 = .ok (.aload_n 0, 1) := by decide +kernel
theorem dL_law_281 : decode cL_law 281 = .ok (.iload_n 3, 1) := by decide +kernel
theorem dL_law_282 : decode cL_law 282 = .ok (.iconst 2, 1) := by decide +kernel
theorem dL_law_283 : decode cL_law 283 = .ok (.iadd, 1) := by decide +kernel
theorem dL_law_284 : decode cL_law 284 = .ok (.iaload, 1) := by decide +kernel
theorem dL_law_285 : decode cL_law 285 = .ok (.aload_n 0, 1) := by decide +kernel
theorem dL_law_286 : decode cL_law 286 = .ok (.iload_n 3, 1) := by decide +kernel
theorem dL_law_287 : decode cL_law 287 = .ok (.iconst 3, 1) := by decide +kernel
theorem dL_law_288 : decode cL_law 288 = .ok (.iadd, 1) := by decide +kernel
theorem dL_law_289 : decode cL_law 289 = .ok (.iaload, 1) := by decide +kernel
theorem dL_law_290 : decode cL_law 290 = .ok (.aload_n 0, 1) := by decide +kernel
theorem dL_law_291 : decode cL_law 291 = .ok (.iload_n 3, 1) := by decide +kernel
theorem dL_law_292 : decode cL_law 292 = .ok (.iconst 4, 1) := by decide +kernel
theorem dL_law_293 : decode cL_law 293 = .ok (.iadd, 1) := by decide +kernel
theorem dL_law_294 : decode cL_law 294 = .ok (.iaload, 1) := by decide +kernel
theorem dL_law_295 : decode cL_law 295 = .ok (.aload_n 0, 1) := by decide +kernel
theorem dL_law_296 : decode cL_law 296 = .ok (.iload_n 3, 1) := by decide +kernel
theorem dL_law_297 : decode cL_law 297 = .ok (.iconst 5, 1) := by decide +kernel
theorem dL_law_298 : decode cL_law 298 = .ok (.iadd, 1) := by decide +kernel
theorem dL_law_299 : decode cL_law 299 = .ok (.iaload, 1) := by decide +kernel
theorem dL_law_300 : decode cL_law 300 = .ok (.aload_n 0, 1) := by decide +kernel
theorem dL_law_301 : decode cL_law 301 = .ok (.iload_n 3, 1) := by decide +kernel
theorem dL_law_302 : decode cL_law 302 = .ok (.bipush 6, 2) := by decide +kernel
theorem dL_law_304 : decode cL_law 304 = .ok (.iadd, 1) := by decide +kernel
theorem dL_law_305 : decode cL_law 305 = .ok (.iaload, 1) := by decide +kernel
theorem dL_law_306 : decode cL_law 306 = .ok (.i2l, 1) := by decide +kernel
theorem dL_law_307 : decode cL_law 307 = .ok (.bipush 32, 2) := by decide +kernel
theorem dL_law_309 : decode cL_law 309 = .ok (.lshl, 1) := by decide +kernel
theorem dL_law_310 : decode cL_law 310 = .ok (.aload_n 0, 1) := by decide +kernel
theorem dL_law_311 : decode cL_law 311 = .ok (.iload_n 3, 1) := by decide +kernel
theorem dL_law_312 : decode cL_law 312 = .ok (.bipush 7, 2) := by decide +kernel
theorem dL_law_314 : decode cL_law 314 = .ok (.iadd, 1) := by decide +kernel
theorem dL_law_315 : decode cL_law 315 = .ok (.iaload, 1) := by decide +kernel
theorem dL_law_316 : decode cL_law 316 = .ok (.i2l, 1) := by decide +kernel
theorem dL_law_317 : decode cL_law 317 = .ok (.ldc2_w 13, 3) := by decide +kernel
theorem dL_law_320 : decode cL_law 320 = .ok (.land, 1) := by decide +kernel
theorem dL_law_321 : decode cL_law 321 = .ok (.lor, 1) := by decide +kernel
theorem dL_law_322 : decode cL_law 322 = .ok (.invokevirtual 24, 3) := by decide +kernel
theorem dL_law_325 : decode cL_law 325 = .ok (.if_icmp .eq 817, 3) := by decide +kernel
theorem dL_law_328 : decode cL_law 328 = .ok (.iconst 0, 1) := by decide +kernel
theorem dL_law_329 : decode cL_law 329 = .ok (.ireturn, 1) := by decide +kernel
theorem dL_law_330 : decode cL_law 330 = .ok (.aload_n 1, 1) := by decide +kernel
theorem dL_law_331 : decode cL_law 331 = .ok (.aload_n 0, 1) := by decide +kernel
theorem dL_law_332 : decode cL_law 332 = .ok (.iload_n 3, 1) := by decide +kernel
theorem dL_law_333 : decode cL_law 333 = .ok (.iconst 1, 1) := by decide +kernel
theorem dL_law_334 : decode cL_law 334 = .ok (.iadd, 1) := by decide +kernel
theorem dL_law_335 : decode cL_law 335 = .ok (.iaload, 1) := by decide +kernel
theorem dL_law_336 : decode cL_law 336 = .ok (.aload_n 0, 1) := by decide +kernel
theorem dL_law_337 : decode cL_law 337 = .ok (.iload_n 3, 1) := by decide +kernel
theorem dL_law_338 : decode cL_law 338 = .ok (.iconst 2, 1) := by decide +kernel
theorem dL_law_339 : decode cL_law 339 = .ok (.iadd, 1) := by decide +kernel
theorem dL_law_340 : decode cL_law 340 = .ok (.iaload, 1) := by decide +kernel
theorem dL_law_341 : decode cL_law 341 = .ok (.aload_n 0, 1) := by decide +kernel
theorem dL_law_342 : decode cL_law 342 = .ok (.iload_n 3, 1) := by decide +kernel
theorem dL_law_343 : decode cL_law 343 = .ok (.iconst 3, 1) := by decide +kernel
theorem dL_law_344 : decode cL_law 344 = .ok (.iadd, 1) := by decide +kernel
theorem dL_law_345 : decode cL_law 345 = .ok (.iaload, 1) := by decide +kernel
theorem dL_law_346 : decode cL_law 346 = .ok (.aload_n 0, 1) := by decide +kernel
theorem dL_law_347 : decode cL_law 347 = .ok (.iload_n 3, 1) := by decide +kernel
theorem dL_law_348 : decode cL_law 348 = .ok (.iconst 4, 1) := by decide +kernel
theorem dL_law_349 : decode cL_law 349 = .ok (.iadd, 1) := by decide +kernel
theorem dL_law_350 : decode cL_law 350 = .ok (.iaload, 1) := by decide +kernel
theorem dL_law_351 : decode cL_law 351 = .ok (.invokevirtual 25, 3) := by decide +kernel
theorem dL_law_354 : decode cL_law 354 = .ok (.aload_n 2, 1) := by decide +kernel
theorem dL_law_355 : decode cL_law 355 = .ok (.aload_n 0, 1) := by decide +kernel
theorem dL_law_356 : decode cL_law 356 = .ok (.iload_n 3, 1) := by decide +kernel
theorem dL_law_357 : decode cL_law 357 = .ok (.iconst 1, 1) := by decide +kernel
theorem dL_law_358 : decode cL_law 358 = .ok (.iadd, 1) := by decide +kernel
theorem dL_law_359 : decode cL_law 359 = .ok (.iaload, 1) := by decide +kernel
theorem dL_law_360 : decode cL_law 360 = .ok (.aload_n 0, 1) := by decide +kernel
theorem dL_law_361 : decode cL_law 361 = .ok (.iload_n 3, 1) := by decide +kernel
theorem dL_law_362 : decode cL_law 362 = .ok (.iconst 2, 1) := by decide +kernel
theorem dL_law_363 : decode cL_law 363 = .ok (.iadd, 1) := by decide +kernel
theorem dL_law_364 : decode cL_law 364 = .ok (.iaload, 1) := by decide +kernel
theorem dL_law_365 : decode cL_law 365 = .ok (.aload_n 0, 1) := by decide +kernel
theorem dL_law_366 : decode cL_law 366 = .ok (.iload_n 3, 1) := by decide +kernel
theorem dL_law_367 : decode cL_law 367 = .ok (.iconst 3, 1) := by decide +kernel
theorem dL_law_368 : decode cL_law 368 = .ok (.iadd, 1) := by decide +kernel
theorem dL_law_369 : decode cL_law 369 = .ok (.iaload, 1) := by decide +kernel
theorem dL_law_370 : decode cL_law 370 = .ok (.aload_n 0, 1) := by decide +kernel
theorem dL_law_371 : decode cL_law 371 = .ok (.iload_n 3, 1) := by decide +kernel
theorem dL_law_372 : decode cL_law 372 = .ok (.iconst 4, 1) := by decide +kernel
theorem dL_law_373 : decode cL_law 373 = .ok (.iadd, 1) := by decide +kernel
theorem dL_law_374 : decode cL_law 374 = .ok (.iaload, 1) := by decide +kernel
theorem dL_law_375 : decode cL_law 375 = .ok (.invokevirtual 29, 3) := by decide +kernel
theorem dL_law_378 : decode cL_law 378 = .ok (.lcmp, 1) := by decide +kernel
theorem dL_law_379 : decode cL_law 379 = .ok (.ifCond .eq 763, 3) := by decide +kernel
theorem dL_law_382 : decode cL_law 382 = .ok (.iconst 0, 1) := by decide +kernel
theorem dL_law_383 : decode cL_law 383 = .ok (.ireturn, 1) := by decide +kernel
theorem dL_law_384 : decode cL_law 384 = .ok (.aload_n 1, 1) := by decide +kernel
theorem dL_law_385 : decode cL_law 385 = .ok (.aload_n 0, 1) := by decide +kernel
theorem dL_law_386 : decode cL_law 386 = .ok (.iload_n 3, 1) := by decide +kernel
theorem dL_law_387 : decode cL_law 387 = .ok (.iconst 1, 1) := by decide +kernel
theorem dL_law_388 : decode cL_law 388 = .ok (.iadd, 1) := by decide +kernel
theorem dL_law_389 : decode cL_law 389 = .ok (.iaload, 1) := by decide +kernel
theorem dL_law_390 : decode cL_law 390 = .ok (.aload_n 0, 1) := by decide +kernel
theorem dL_law_391 : decode cL_law 391 = .ok (.iload_n 3, 1) := by decide +kernel
theorem dL_law_392 : decode cL_law 392 = .ok (.iconst 2, 1) := by decide +kernel
theorem dL_law_393 : decode cL_law 393 = .ok (.iadd, 1) := by decide +kernel
theorem dL_law_394 : decode cL_law 394 = .ok (.iaload, 1) := by decide +kernel
theorem dL_law_395 : decode cL_law 395 = .ok (.aload_n 0, 1) := by decide +kernel
theorem dL_law_396 : decode cL_law 396 = .ok (.iload_n 3, 1) := by decide +kernel
theorem dL_law_397 : decode cL_law 397 = .ok (.iconst 3, 1) := by decide +kernel
theorem dL_law_398 : decode cL_law 398 = .ok (.iadd, 1) := by decide +kernel
theorem dL_law_399 : decode cL_law 399 = .ok (.iaload, 1) := by decide +kernel
theorem dL_law_400 : decode cL_law 400 = .ok (.ifCond .eq 7, 3) := by decide +kernel
theorem dL_law_403 : decode cL_law 403 = .ok (.iconst 1, 1) := by decide +kernel
theorem dL_law_404 : decode cL_law 404 = .ok (.goto 4, 3) := by decide +kernel
theorem dL_law_407 : decode cL_law 407 = .ok (.iconst 0, 1) := by decide +kernel
theorem dL_law_408 : decode cL_law 408 = .ok (.invokevirtual 30, 3) := by decide +kernel
theorem dL_law_411 : decode cL_law 411 = .ok (.aload_n 2, 1) := by decide +kernel
theorem dL_law_412 : decode cL_law 412 = .ok (.aload_n 0, 1) := by decide +kernel
theorem dL_law_413 : decode cL_law 413 = .ok (.iload_n 3, 1) := by decide +kernel
theorem dL_law_414 : decode cL_law 414 = .ok (.iconst 1, 1) := by decide +kernel
theorem dL_law_415 : decode cL_law 415 = .ok (.iadd, 1) := by decide +kernel
theorem dL_law_416 : decode cL_law 416 = .ok (.iaload, 1) := by decide +kernel
theorem dL_law_417 : decode cL_law 417 = .ok (.aload_n 0, 1) := by decide +kernel
theorem dL_law_418 : decode cL_law 418 = .ok (.iload_n 3, 1) := by decide +kernel
theorem dL_law_419 : decode cL_law 419 = .ok (.iconst 2, 1) := by decide +kernel
theorem dL_law_420 : decode cL_law 420 = .ok (.iadd, 1) := by decide +kernel
theorem dL_law_421 : decode cL_law 421 = .ok (.iaload, 1) := by decide +kernel
theorem dL_law_422 : decode cL_law 422 = .ok (.aload_n 0, 1) := by decide +kernel
theorem dL_law_423 : decode cL_law 423 = .ok (.iload_n 3, 1) := by decide +kernel
theorem dL_law_424 : decode cL_law 424 = .ok (.iconst 3, 1) := by decide +kernel
theorem dL_law_425 : decode cL_law 425 = .ok (.iadd, 1) := by decide +kernel
theorem dL_law_426 : decode cL_law 426 = .ok (.iaload, 1) := by decide +kernel
theorem dL_law_427 : decode cL_law 427 = .ok (.ifCond .eq 7, 3) := by decide +kernel
theorem dL_law_430 : decode cL_law 430 = .ok (.iconst 1, 1) := by decide +kernel
theorem dL_law_431 : decode cL_law 431 = .ok (.goto 4, 3) := by decide +kernel
theorem dL_law_434 : decode cL_law 434 = .ok (.iconst 0, 1) := by decide +kernel
theorem dL_law_435 : decode cL_law 435 = .ok (.invokevirtual 34, 3) := by decide +kernel
theorem dL_law_438 : decode cL_law 438 = .ok (.if_icmp .eq 704, 3) := by decide +kernel
theorem dL_law_441 : decode cL_law 441 = .ok (.iconst 0, 1) := by decide +kernel
theorem dL_law_442 : decode cL_law 442 = .ok (.ireturn, 1) := by decide +kernel
theorem dL_law_443 : decode cL_law 443 = .ok (.aload_n 1, 1) := by decide +kernel
theorem dL_law_444 : decode cL_law 444 = .ok (.aload_n 0, 1) := by decide +kernel
theorem dL_law_445 : decode cL_law 445 = .ok (.iload_n 3, 1) := by decide +kernel
theorem dL_law_446 : decode cL_law 446 = .ok (.iconst 1, 1) := by decide +kernel
theorem dL_law_447 : decode cL_law 447 = .ok (.iadd, 1) := by decide +kernel
theorem dL_law_448 : decode cL_law 448 = .ok (.iaload, 1) := by decide +kernel
theorem dL_law_449 : decode cL_law 449 = .ok (.aload_n 0, 1) := by decide +kernel
theorem dL_law_450 : decode cL_law 450 = .ok (.iload_n 3, 1) := by decide +kernel
theorem dL_law_451 : decode cL_law 451 = .ok (.iconst 2, 1) := by decide +kernel
theorem dL_law_452 : decode cL_law 452 = .ok (.iadd, 1) := by decide +kernel
theorem dL_law_453 : decode cL_law 453 = .ok (.iaload, 1) := by decide +kernel
theorem dL_law_454 : decode cL_law 454 = .ok (.aload_n 0, 1) := by decide +kernel
theorem dL_law_455 : decode cL_law 455 = .ok (.iload_n 3, 1) := by decide +kernel
theorem dL_law_456 : decode cL_law 456 = .ok (.iconst 3, 1) := by decide +kernel
theorem dL_law_457 : decode cL_law 457 = .ok (.iadd, 1) := by decide +kernel
theorem dL_law_458 : decode cL_law 458 = .ok (.iaload, 1) := by decide +kernel
theorem dL_law_459 : decode cL_law 459 = .ok (.ifCond .eq 7, 3) := by decide +kernel
theorem dL_law_462 : decode cL_law 462 = .ok (.iconst 1, 1) := by decide +kernel
theorem dL_law_463 : decode cL_law 463 = .ok (.goto 4, 3) := by decide +kernel
theorem dL_law_466 : decode cL_law 466 = .ok (.iconst 0, 1) := by decide +kernel
theorem dL_law_467 : decode cL_law 467 = .ok (.invokevirtual 35, 3) := by decide +kernel
theorem dL_law_470 : decode cL_law 470 = .ok (.aload_n 2, 1) := by decide +kernel
theorem dL_law_471 : decode cL_law 471 = .ok (.aload_n 0, 1) := by decide +kernel
theorem dL_law_472 : decode cL_law 472 = .ok (.iload_n 3, 1) := by decide +kernel
theorem dL_law_473 : decode cL_law 473 = .ok (.iconst 1, 1) := by decide +kernel
theorem dL_law_474 : decode cL_law 474 = .ok (.iadd, 1) := by decide +kernel
theorem dL_law_475 : decode cL_law 475 = .ok (.iaload, 1) := by decide +kernel
theorem dL_law_476 : decode cL_law 476 = .ok (.aload_n 0, 1) := by decide +kernel
theorem dL_law_477 : decode cL_law 477 = .ok (.iload_n 3, 1) := by decide +kernel
theorem dL_law_478 : decode cL_law 478 = .ok (.iconst 2, 1) := by decide +kernel
theorem dL_law_479 : decode cL_law 479 = .ok (.iadd, 1) := by decide +kernel
theorem dL_law_480 : decode cL_law 480 = .ok (.iaload, 1) := by decide +kernel
theorem dL_law_481 : decode cL_law 481 = .ok (.aload_n 0, 1) := by decide +kernel
theorem dL_law_482 : decode cL_law 482 = .ok (.iload_n 3, 1) := by decide +kernel
theorem dL_law_483 : decode cL_law 483 = .ok (.iconst 3, 1) := by decide +kernel
theorem dL_law_484 : decode cL_law 484 = .ok (.iadd, 1) := by decide +kernel
theorem dL_law_485 : decode cL_law 485 = .ok (.iaload, 1) := by decide +kernel
theorem dL_law_486 : decode cL_law 486 = .ok (.ifCond .eq 7, 3) := by decide +kernel
theorem dL_law_489 : decode cL_law 489 = .ok (.iconst 1, 1) := by decide +kernel
theorem dL_law_490 : decode cL_law 490 = .ok (.goto 4, 3) := by decide +kernel
theorem dL_law_493 : decode cL_law 493 = .ok (.iconst 0, 1) := by decide +kernel
theorem dL_law_494 : decode cL_law 494 = .ok (.invokevirtual 38, 3) := by decide +kernel
theorem dL_law_497 : decode cL_law 497 = .ok (.if_icmp .eq 645, 3) := by decide +kernel
theorem dL_law_500 : decode cL_law 500 = .ok (.iconst 0, 1) := by decide +kernel
theorem dL_law_501 : decode cL_law 501 = .ok (.ireturn, 1) := by decide +kernel
theorem dL_law_502 : decode cL_law 502 = .ok (.aload_n 1, 1) := by decide +kernel
theorem dL_law_503 : decode cL_law 503 = .ok (.aload_n 0, 1) := by decide +kernel
theorem dL_law_504 : decode cL_law 504 = .ok (.iload_n 3, 1) := by decide +kernel
theorem dL_law_505 : decode cL_law 505 = .ok (.iconst 1, 1) := by decide +kernel
theorem dL_law_506 : decode cL_law 506 = .ok (.iadd, 1) := by decide +kernel
theorem dL_law_507 : decode cL_law 507 = .ok (.iaload, 1) := by decide +kernel
theorem dL_law_508 : decode cL_law 508 = .ok (.invokevirtual 39, 3) := by decide +kernel
theorem dL_law_511 : decode cL_law 511 = .ok (.aload_n 2, 1) := by decide +kernel
theorem dL_law_512 : decode cL_law 512 = .ok (.aload_n 0, 1) := by decide +kernel
theorem dL_law_513 : decode cL_law 513 = .ok (.iload_n 3, 1) := by decide +kernel
theorem dL_law_514 : decode cL_law 514 = .ok (.iconst 1, 1) := by decide +kernel
theorem dL_law_515 : decode cL_law 515 = .ok (.iadd, 1) := by decide +kernel
theorem dL_law_516 : decode cL_law 516 = .ok (.iaload, 1) := by decide +kernel
theorem dL_law_517 : decode cL_law 517 = .ok (.invokevirtual 43, 3) := by decide +kernel
theorem dL_law_520 : decode cL_law 520 = .ok (.if_icmp .eq 622, 3) := by decide +kernel
theorem dL_law_523 : decode cL_law 523 = .ok (.iconst 0, 1) := by decide +kernel
theorem dL_law_524 : decode cL_law 524 = .ok (.ireturn, 1) := by decide +kernel
theorem dL_law_525 : decode cL_law 525 = .ok (.aload_n 1, 1) := by decide +kernel
theorem dL_law_526 : decode cL_law 526 = .ok (.aload_n 0, 1) := by decide +kernel
theorem dL_law_527 : decode cL_law 527 = .ok (.iload_n 3, 1) := by decide +kernel
theorem dL_law_528 : decode cL_law 528 = .ok (.iconst 1, 1) := by decide +kernel
theorem dL_law_529 : decode cL_law 529 = .ok (.iadd, 1) := by decide +kernel
theorem dL_law_530 : decode cL_law 530 = .ok (.iaload, 1) := by decide +kernel
theorem dL_law_531 : decode cL_law 531 = .ok (.invokevirtual 44, 3) := by decide +kernel
theorem dL_law_534 : decode cL_law 534 = .ok (.aload_n 2, 1) := by decide +kernel
theorem dL_law_535 : decode cL_law 535 = .ok (.aload_n 0, 1) := by decide +kernel
theorem dL_law_536 : decode cL_law 536 = .ok (.iload_n 3, 1) := by decide +kernel
theorem dL_law_537 : decode cL_law 537 = .ok (.iconst 1, 1) := by decide +kernel
theorem dL_law_538 : decode cL_law 538 = .ok (.iadd, 1) := by decide +kernel
theorem dL_law_539 : decode cL_law 539 = .ok (.iaload, 1) := by decide +kernel
theorem dL_law_540 : decode cL_law 540 = .ok (.invokevirtual 48, 3) := by decide +kernel
theorem dL_law_543 : decode cL_law 543 = .ok (.if_icmp .eq 599, 3) := by decide +kernel
theorem dL_law_546 : decode cL_law 546 = .ok (.iconst 0, 1) := by decide +kernel
theorem dL_law_547 : decode cL_law 547 = .ok (.ireturn, 1) := by decide +kernel
theorem dL_law_548 : decode cL_law 548 = .ok (.aload_n 1, 1) := by decide +kernel
theorem dL_law_549 : decode cL_law 549 = .ok (.invokevirtual 49, 3) := by decide +kernel
theorem dL_law_552 : decode cL_law 552 = .ok (.aload_n 2, 1) := by decide +kernel
theorem dL_law_553 : decode cL_law 553 = .ok (.invokevirtual 53, 3) := by decide +kernel
theorem dL_law_556 : decode cL_law 556 = .ok (.if_icmp .eq 586, 3) := by decide +kernel
theorem dL_law_559 : decode cL_law 559 = .ok (.iconst 0, 1) := by decide +kernel
theorem dL_law_560 : decode cL_law 560 = .ok (.ireturn, 1) := by decide +kernel
theorem dL_law_561 : decode cL_law 561 = .ok (.aload_n 1, 1) := by decide +kernel
theorem dL_law_562 : decode cL_law 562 = .ok (.invokevirtual 54, 3) := by decide +kernel
theorem dL_law_565 : decode cL_law 565 = .ok (.aload_n 2, 1) := by decide +kernel
theorem dL_law_566 : decode cL_law 566 = .ok (.invokevirtual 57, 3) := by decide +kernel
theorem dL_law_569 : decode cL_law 569 = .ok (.if_icmp .eq 573, 3) := by decide +kernel
theorem dL_law_572 : decode cL_law 572 = .ok (.iconst 0, 1) := by decide +kernel
theorem dL_law_573 : decode cL_law 573 = .ok (.ireturn, 1) := by decide +kernel
theorem dL_law_574 : decode cL_law 574 = .ok (.aload_n 1, 1) := by decide +kernel
theorem dL_law_575 : decode cL_law 575 = .ok (.aload_n 0, 1) := by decide +kernel
theorem dL_law_576 : decode cL_law 576 = .ok (.iload_n 3, 1) := by decide +kernel
theorem dL_law_577 : decode cL_law 577 = .ok (.iconst 1, 1) := by decide +kernel
theorem dL_law_578 : decode cL_law 578 = .ok (.iadd, 1) := by decide +kernel
theorem dL_law_579 : decode cL_law 579 = .ok (.iaload, 1) := by decide +kernel
theorem dL_law_580 : decode cL_law 580 = .ok (.invokevirtual 58, 3) := by decide +kernel
theorem dL_law_583 : decode cL_law 583 = .ok (.aload_n 2, 1) := by decide +kernel
theorem dL_law_584 : decode cL_law 584 = .ok (.aload_n 0, 1) := by decide +kernel
theorem dL_law_585 : decode cL_law 585 = .ok (.iload_n 3, 1) := by decide +kernel
theorem dL_law_586 : decode cL_law 586 = .ok (.iconst 1, 1) := by decide +kernel
theorem dL_law_587 : decode cL_law 587 = .ok (.iadd, 1) := by decide +kernel
theorem dL_law_588 : decode cL_law 588 = .ok (.iaload, 1) := by decide +kernel
theorem dL_law_589 : decode cL_law 589 = .ok (.invokevirtual 61, 3) := by decide +kernel
theorem dL_law_592 : decode cL_law 592 = .ok (.if_icmp .eq 550, 3) := by decide +kernel
theorem dL_law_595 : decode cL_law 595 = .ok (.iconst 0, 1) := by decide +kernel
theorem dL_law_596 : decode cL_law 596 = .ok (.ireturn, 1) := by decide +kernel
theorem dL_law_597 : decode cL_law 597 = .ok (.aload_n 1, 1) := by decide +kernel
theorem dL_law_598 : decode cL_law 598 = .ok (.invokevirtual 62, 3) := by decide +kernel
theorem dL_law_601 : decode cL_law 601 = .ok (.aload_n 2, 1) := by decide +kernel
theorem dL_law_602 : decode cL_law 602 = .ok (.invokevirtual 65, 3) := by decide +kernel
theorem dL_law_605 : decode cL_law 605 = .ok (.if_icmp .eq 537, 3) := by decide +kernel
theorem dL_law_608 : decode cL_law 608 = .ok (.iconst 0, 1) := by decide +kernel
theorem dL_law_609 : decode cL_law 609 = .ok (.ireturn, 1) := by decide +kernel
theorem dL_law_610 : decode cL_law 610 = .ok (.aload_n 1, 1) := by decide +kernel
theorem dL_law_611 : decode cL_law 611 = .ok (.aload_n 0, 1) := by decide +kernel
theorem dL_law_612 : decode cL_law 612 = .ok (.iload_n 3, 1) := by decide +kernel
theorem dL_law_613 : decode cL_law 613 = .ok (.iconst 1, 1) := by decide +kernel
theorem dL_law_614 : decode cL_law 614 = .ok (.iadd, 1) := by decide +kernel
theorem dL_law_615 : decode cL_law 615 = .ok (.iaload, 1) := by decide +kernel
theorem dL_law_616 : decode cL_law 616 = .ok (.aload_n 0, 1) := by decide +kernel
theorem dL_law_617 : decode cL_law 617 = .ok (.iload_n 3, 1) := by decide +kernel
theorem dL_law_618 : decode cL_law 618 = .ok (.iconst 2, 1) := by decide +kernel
theorem dL_law_619 : decode cL_law 619 = .ok (.iadd, 1) := by decide +kernel
theorem dL_law_620 : decode cL_law 620 = .ok (.iaload, 1) := by decide +kernel
theorem dL_law_621 : decode cL_law 621 = .ok (.aload_n 0, 1) := by decide +kernel
theorem dL_law_622 : decode cL_law 622 = .ok (.iload_n 3, 1) := by decide +kernel
theorem dL_law_623 : decode cL_law 623 = .ok (.iconst 3, 1) := by decide +kernel
theorem dL_law_624 : decode cL_law 624 = .ok (.iadd, 1) := by decide +kernel
theorem dL_law_625 : decode cL_law 625 = .ok (.iaload, 1) := by decide +kernel
theorem dL_law_626 : decode cL_law 626 = .ok (.invokevirtual 66, 3) := by decide +kernel
theorem dL_law_629 : decode cL_law 629 = .ok (.aload_n 2, 1) := by decide +kernel
theorem dL_law_630 : decode cL_law 630 = .ok (.aload_n 0, 1) := by decide +kernel
theorem dL_law_631 : decode cL_law 631 = .ok (.iload_n 3, 1) := by decide +kernel
theorem dL_law_632 : decode cL_law 632 = .ok (.iconst 1, 1) := by decide +kernel
theorem dL_law_633 : decode cL_law 633 = .ok (.iadd, 1) := by decide +kernel
theorem dL_law_634 : decode cL_law 634 = .ok (.iaload, 1) := by decide +kernel
theorem dL_law_635 : decode cL_law 635 = .ok (.aload_n 0, 1) := by decide +kernel
theorem dL_law_636 : decode cL_law 636 = .ok (.iload_n 3, 1) := by decide +kernel
theorem dL_law_637 : decode cL_law 637 = .ok (.iconst 2, 1) := by decide +kernel
theorem dL_law_638 : decode cL_law 638 = .ok (.iadd, 1) := by decide +kernel
theorem dL_law_639 : decode cL_law 639 = .ok (.iaload, 1) := by decide +kernel
theorem dL_law_640 : decode cL_law 640 = .ok (.aload_n 0, 1) := by decide +kernel
theorem dL_law_641 : decode cL_law 641 = .ok (.iload_n 3, 1) := by decide +kernel
theorem dL_law_642 : decode cL_law 642 = .ok (.iconst 3, 1) := by decide +kernel
theorem dL_law_643 : decode cL_law 643 = .ok (.iadd, 1) := by decide +kernel
theorem dL_law_644 : decode cL_law 644 = .ok (.iaload, 1) := by decide +kernel
theorem dL_law_645 : decode cL_law 645 = .ok (.invokevirtual 70, 3) := by decide +kernel
theorem dL_law_648 : decode cL_law 648 = .ok (.if_icmp .eq 494, 3) := by decide +kernel
theorem dL_law_651 : decode cL_law 651 = .ok (.iconst 0, 1) := by decide +kernel
theorem dL_law_652 : decode cL_law 652 = .ok (.ireturn, 1) := by decide +kernel
theorem dL_law_653 : decode cL_law 653 = .ok (.aload_n 1, 1) := by decide +kernel
theorem dL_law_654 : decode cL_law 654 = .ok (.aload_n 0, 1) := by decide +kernel
theorem dL_law_655 : decode cL_law 655 = .ok (.iload_n 3, 1) := by decide +kernel
theorem dL_law_656 : decode cL_law 656 = .ok (.iconst 1, 1) := by decide +kernel
theorem dL_law_657 : decode cL_law 657 = .ok (.iadd, 1) := by decide +kernel
theorem dL_law_658 : decode cL_law 658 = .ok (.iaload, 1) := by decide +kernel
theorem dL_law_659 : decode cL_law 659 = .ok (.aload_n 0, 1) := by decide +kernel
theorem dL_law_660 : decode cL_law 660 = .ok (.iload_n 3, 1) := by decide +kernel
theorem dL_law_661 : decode cL_law 661 = .ok (.iconst 2, 1) := by decide +kernel
theorem dL_law_662 : decode cL_law 662 = .ok (.iadd, 1) := by decide +kernel
theorem dL_law_663 : decode cL_law 663 = .ok (.iaload, 1) := by decide +kernel
theorem dL_law_664 : decode cL_law 664 = .ok (.aload_n 0, 1) := by decide +kernel
theorem dL_law_665 : decode cL_law 665 = .ok (.iload_n 3, 1) := by decide +kernel
theorem dL_law_666 : decode cL_law 666 = .ok (.iconst 3, 1) := by decide +kernel
theorem dL_law_667 : decode cL_law 667 = .ok (.iadd, 1) := by decide +kernel
theorem dL_law_668 : decode cL_law 668 = .ok (.iaload, 1) := by decide +kernel
theorem dL_law_669 : decode cL_law 669 = .ok (.invokevirtual 71, 3) := by decide +kernel
theorem dL_law_672 : decode cL_law 672 = .ok (.aload_n 2, 1) := by decide +kernel
theorem dL_law_673 : decode cL_law 673 = .ok (.aload_n 0, 1) := by decide +kernel
theorem dL_law_674 : decode cL_law 674 = .ok (.iload_n 3, 1) := by decide +kernel
theorem dL_law_675 : decode cL_law 675 = .ok (.iconst 1, 1) := by decide +kernel
theorem dL_law_676 : decode cL_law 676 = .ok (.iadd, 1) := by decide +kernel
theorem dL_law_677 : decode cL_law 677 = .ok (.iaload, 1) := by decide +kernel
theorem dL_law_678 : decode cL_law 678 = .ok (.aload_n 0, 1) := by decide +kernel
theorem dL_law_679 : decode cL_law 679 = .ok (.iload_n 3, 1) := by decide +kernel
theorem dL_law_680 : decode cL_law 680 = .ok (.iconst 2, 1) := by decide +kernel
theorem dL_law_681 : decode cL_law 681 = .ok (.iadd, 1) := by decide +kernel
theorem dL_law_682 : decode cL_law 682 = .ok (.iaload, 1) := by decide +kernel
theorem dL_law_683 : decode cL_law 683 = .ok (.aload_n 0, 1) := by decide +kernel
theorem dL_law_684 : decode cL_law 684 = .ok (.iload_n 3, 1) := by decide +kernel
theorem dL_law_685 : decode cL_law 685 = .ok (.iconst 3, 1) := by decide +kernel
theorem dL_law_686 : decode cL_law 686 = .ok (.iadd, 1) := by decide +kernel
theorem dL_law_687 : decode cL_law 687 = .ok (.iaload, 1) := by decide +kernel
theorem dL_law_688 : decode cL_law 688 = .ok (.invokevirtual 74, 3) := by decide +kernel
theorem dL_law_691 : decode cL_law 691 = .ok (.if_icmp .eq 451, 3) := by decide +kernel
theorem dL_law_694 : decode cL_law 694 = .ok (.iconst 0, 1) := by decide +kernel
theorem dL_law_695 : decode cL_law 695 = .ok (.ireturn, 1) := by decide +kernel
theorem dL_law_696 : decode cL_law 696 = .ok (.aload_n 1, 1) := by decide +kernel
theorem dL_law_697 : decode cL_law 697 = .ok (.aload_n 0, 1) := by decide +kernel
theorem dL_law_698 : decode cL_law 698 = .ok (.iload_n 3, 1) := by decide +kernel
theorem dL_law_699 : decode cL_law 699 = .ok (.iconst 1, 1) := by decide +kernel
theorem dL_law_700 : decode cL_law 700 = .ok (.iadd, 1) := by decide +kernel
theorem dL_law_701 : decode cL_law 701 = .ok (.iaload, 1) := by decide +kernel
theorem dL_law_702 : decode cL_law 702 = .ok (.aload_n 0, 1) := by decide +kernel
theorem dL_law_703 : decode cL_law 703 = .ok (.iload_n 3, 1) := by decide +kernel
theorem dL_law_704 : decode cL_law 704 = .ok (.iconst 2, 1) := by decide +kernel
theorem dL_law_705 : decode cL_law 705 = .ok (.iadd, 1) := by decide +kernel
theorem dL_law_706 : decode cL_law 706 = .ok (.iaload, 1) := by decide +kernel
theorem dL_law_707 : decode cL_law 707 = .ok (.invokevirtual 75, 3) := by decide +kernel
theorem dL_law_710 : decode cL_law 710 = .ok (.aload_n 2, 1) := by decide +kernel
theorem dL_law_711 : decode cL_law 711 = .ok (.aload_n 0, 1) := by decide +kernel
theorem dL_law_712 : decode cL_law 712 = .ok (.iload_n 3, 1) := by decide +kernel
theorem dL_law_713 : decode cL_law 713 = .ok (.iconst 1, 1) := by decide +kernel
theorem dL_law_714 : decode cL_law 714 = .ok (.iadd, 1) := by decide +kernel
theorem dL_law_715 : decode cL_law 715 = .ok (.iaload, 1) := by decide +kernel
theorem dL_law_716 : decode cL_law 716 = .ok (.aload_n 0, 1) := by decide +kernel
theorem dL_law_717 : decode cL_law 717 = .ok (.iload_n 3, 1) := by decide +kernel
theorem dL_law_718 : decode cL_law 718 = .ok (.iconst 2, 1) := by decide +kernel
theorem dL_law_719 : decode cL_law 719 = .ok (.iadd, 1) := by decide +kernel
theorem dL_law_720 : decode cL_law 720 = .ok (.iaload, 1) := by decide +kernel
theorem dL_law_721 : decode cL_law 721 = .ok (.invokevirtual 79, 3) := by decide +kernel
theorem dL_law_724 : decode cL_law 724 = .ok (.if_icmp .eq 418, 3) := by decide +kernel
theorem dL_law_727 : decode cL_law 727 = .ok (.iconst 0, 1) := by decide +kernel
theorem dL_law_728 : decode cL_law 728 = .ok (.ireturn, 1) := by decide +kernel
theorem dL_law_729 : decode cL_law 729 = .ok (.aload_n 1, 1) := by decide +kernel
theorem dL_law_730 : decode cL_law 730 = .ok (.aload_n 0, 1) := by decide +kernel
theorem dL_law_731 : decode cL_law 731 = .ok (.iload_n 3, 1) := by decide +kernel
theorem dL_law_732 : decode cL_law 732 = .ok (.iconst 1, 1) := by decide +kernel
theorem dL_law_733 : decode cL_law 733 = .ok (.iadd, 1) := by decide +kernel
theorem dL_law_734 : decode cL_law 734 = .ok (.iaload, 1) := by decide +kernel
theorem dL_law_735 : decode cL_law 735 = .ok (.invokevirtual 80, 3) := by decide +kernel
theorem dL_law_738 : decode cL_law 738 = .ok (.aload_n 2, 1) := by decide +kernel
theorem dL_law_739 : decode cL_law 739 = .ok (.aload_n 0, 1) := by decide +kernel
theorem dL_law_740 : decode cL_law 740 = .ok (.iload_n 3, 1) := by decide +kernel
theorem dL_law_741 : decode cL_law 741 = .ok (.iconst 1, 1) := by decide +kernel
theorem dL_law_742 : decode cL_law 742 = .ok (.iadd, 1) := by decide +kernel
theorem dL_law_743 : decode cL_law 743 = .ok (.iaload, 1) := by decide +kernel
theorem dL_law_744 : decode cL_law 744 = .ok (.invokevirtual 83, 3) := by decide +kernel
theorem dL_law_747 : decode cL_law 747 = .ok (.if_icmp .eq 395, 3) := by decide +kernel
theorem dL_law_750 : decode cL_law 750 = .ok (.iconst 0, 1) := by decide +kernel
theorem dL_law_751 : decode cL_law 751 = .ok (.ireturn, 1) := by decide +kernel
theorem dL_law_752 : decode cL_law 752 = .ok (.aload_n 1, 1) := by decide +kernel
theorem dL_law_753 : decode cL_law 753 = .ok (.aload_n 0, 1) := by decide +kernel
theorem dL_law_754 : decode cL_law 754 = .ok (.iload_n 3, 1) := by decide +kernel
theorem dL_law_755 : decode cL_law 755 = .ok (.iconst 1, 1) := by decide +kernel
theorem dL_law_756 : decode cL_law 756 = .ok (.iadd, 1) := by decide +kernel
theorem dL_law_757 : decode cL_law 757 = .ok (.iaload, 1) := by decide +kernel
theorem dL_law_758 : decode cL_law 758 = .ok (.aload_n 0, 1) := by decide +kernel
theorem dL_law_759 : decode cL_law 759 = .ok (.iload_n 3, 1) := by decide +kernel
theorem dL_law_760 : decode cL_law 760 = .ok (.iconst 2, 1) := by decide +kernel
theorem dL_law_761 : decode cL_law 761 = .ok (.iadd, 1) := by decide +kernel
theorem dL_law_762 : decode cL_law 762 = .ok (.iaload, 1) := by decide +kernel
theorem dL_law_763 : decode cL_law 763 = .ok (.invokevirtual 84, 3) := by decide +kernel
theorem dL_law_766 : decode cL_law 766 = .ok (.aload_n 2, 1) := by decide +kernel
theorem dL_law_767 : decode cL_law 767 = .ok (.aload_n 0, 1) := by decide +kernel
theorem dL_law_768 : decode cL_law 768 = .ok (.iload_n 3, 1) := by decide +kernel
theorem dL_law_769 : decode cL_law 769 = .ok (.iconst 1, 1) := by decide +kernel
theorem dL_law_770 : decode cL_law 770 = .ok (.iadd, 1) := by decide +kernel
theorem dL_law_771 : decode cL_law 771 = .ok (.iaload, 1) := by decide +kernel
theorem dL_law_772 : decode cL_law 772 = .ok (.aload_n 0, 1) := by decide +kernel
theorem dL_law_773 : decode cL_law 773 = .ok (.iload_n 3, 1) := by decide +kernel
theorem dL_law_774 : decode cL_law 774 = .ok (.iconst 2, 1) := by decide +kernel
theorem dL_law_775 : decode cL_law 775 = .ok (.iadd, 1) := by decide +kernel
theorem dL_law_776 : decode cL_law 776 = .ok (.iaload, 1) := by decide +kernel
theorem dL_law_777 : decode cL_law 777 = .ok (.invokevirtual 87, 3) := by decide +kernel
theorem dL_law_780 : decode cL_law 780 = .ok (.if_icmp .eq 362, 3) := by decide +kernel
theorem dL_law_783 : decode cL_law 783 = .ok (.iconst 0, 1) := by decide +kernel
theorem dL_law_784 : decode cL_law 784 = .ok (.ireturn, 1) := by decide +kernel
theorem dL_law_785 : decode cL_law 785 = .ok (.aload_n 1, 1) := by decide +kernel
theorem dL_law_786 : decode cL_law 786 = .ok (.aload_n 0, 1) := by decide +kernel
theorem dL_law_787 : decode cL_law 787 = .ok (.iload_n 3, 1) := by decide +kernel
theorem dL_law_788 : decode cL_law 788 = .ok (.iconst 1, 1) := by decide +kernel
theorem dL_law_789 : decode cL_law 789 = .ok (.iadd, 1) := by decide +kernel
theorem dL_law_790 : decode cL_law 790 = .ok (.iaload, 1) := by decide +kernel
theorem dL_law_791 : decode cL_law 791 = .ok (.aload_n 0, 1) := by decide +kernel
theorem dL_law_792 : decode cL_law 792 = .ok (.iload_n 3, 1) := by decide +kernel
theorem dL_law_793 : decode cL_law 793 = .ok (.iconst 2, 1) := by decide +kernel
theorem dL_law_794 : decode cL_law 794 = .ok (.iadd, 1) := by decide +kernel
theorem dL_law_795 : decode cL_law 795 = .ok (.iaload, 1) := by decide +kernel
theorem dL_law_796 : decode cL_law 796 = .ok (.aload_n 0, 1) := by decide +kernel
theorem dL_law_797 : decode cL_law 797 = .ok (.iload_n 3, 1) := by decide +kernel
theorem dL_law_798 : decode cL_law 798 = .ok (.iconst 3, 1) := by decide +kernel
theorem dL_law_799 : decode cL_law 799 = .ok (.iadd, 1) := by decide +kernel
theorem dL_law_800 : decode cL_law 800 = .ok (.iaload, 1) := by decide +kernel
theorem dL_law_801 : decode cL_law 801 = .ok (.invokevirtual 88, 3) := by decide +kernel
theorem dL_law_804 : decode cL_law 804 = .ok (.aload_n 2, 1) := by decide +kernel
theorem dL_law_805 : decode cL_law 805 = .ok (.aload_n 0, 1) := by decide +kernel
theorem dL_law_806 : decode cL_law 806 = .ok (.iload_n 3, 1) := by decide +kernel
theorem dL_law_807 : decode cL_law 807 = .ok (.iconst 1, 1) := by decide +kernel
theorem dL_law_808 : decode cL_law 808 = .ok (.iadd, 1) := by decide +kernel
theorem dL_law_809 : decode cL_law 809 = .ok (.iaload, 1) := by decide +kernel
theorem dL_law_810 : decode cL_law 810 = .ok (.aload_n 0, 1) := by decide +kernel
theorem dL_law_811 : decode cL_law 811 = .ok (.iload_n 3, 1) := by decide +kernel
theorem dL_law_812 : decode cL_law 812 = .ok (.iconst 2, 1) := by decide +kernel
theorem dL_law_813 : decode cL_law 813 = .ok (.iadd, 1) := by decide +kernel
theorem dL_law_814 : decode cL_law 814 = .ok (.iaload, 1) := by decide +kernel
theorem dL_law_815 : decode cL_law 815 = .ok (.aload_n 0, 1) := by decide +kernel
theorem dL_law_816 : decode cL_law 816 = .ok (.iload_n 3, 1) := by decide +kernel
theorem dL_law_817 : decode cL_law 817 = .ok (.iconst 3, 1) := by decide +kernel
theorem dL_law_818 : decode cL_law 818 = .ok (.iadd, 1) := by decide +kernel
theorem dL_law_819 : decode cL_law 819 = .ok (.iaload, 1) := by decide +kernel
theorem dL_law_820 : decode cL_law 820 = .ok (.invokevirtual 91, 3) := by decide +kernel
theorem dL_law_823 : decode cL_law 823 = .ok (.if_icmp .eq 319, 3) := by decide +kernel
theorem dL_law_826 : decode cL_law 826 = .ok (.iconst 0, 1) := by decide +kernel
theorem dL_law_827 : decode cL_law 827 = .ok (.ireturn, 1) := by decide +kernel
theorem dL_law_828 : decode cL_law 828 = .ok (.aload_n 1, 1) := by decide +kernel
theorem dL_law_829 : decode cL_law 829 = .ok (.aload_n 0, 1) := by decide +kernel
theorem dL_law_830 : decode cL_law 830 = .ok (.iload_n 3, 1) := by decide +kernel
theorem dL_law_831 : decode cL_law 831 = .ok (.iconst 1, 1) := by decide +kernel
theorem dL_law_832 : decode cL_law 832 = .ok (.iadd, 1) := by decide +kernel
theorem dL_law_833 : decode cL_law 833 = .ok (.iaload, 1) := by decide +kernel
theorem dL_law_834 : decode cL_law 834 = .ok (.aload_n 0, 1) := by decide +kernel
theorem dL_law_835 : decode cL_law 835 = .ok (.iload_n 3, 1) := by decide +kernel
theorem dL_law_836 : decode cL_law 836 = .ok (.iconst 2, 1) := by decide +kernel
theorem dL_law_837 : decode cL_law 837 = .ok (.iadd, 1) := by decide +kernel
theorem dL_law_838 : decode cL_law 838 = .ok (.iaload, 1) := by decide +kernel
theorem dL_law_839 : decode cL_law 839 = .ok (.invokevirtual 92, 3) := by decide +kernel
theorem dL_law_842 : decode cL_law 842 = .ok (.aload_n 2, 1) := by decide +kernel
theorem dL_law_843 : decode cL_law 843 = .ok (.aload_n 0, 1) := by decide +kernel
theorem dL_law_844 : decode cL_law 844 = .ok (.iload_n 3, 1) := by decide +kernel
theorem dL_law_845 : decode cL_law 845 = .ok (.iconst 1, 1) := by decide +kernel
theorem dL_law_846 : decode cL_law 846 = .ok (.iadd, 1) := by decide +kernel
theorem dL_law_847 : decode cL_law 847 = .ok (.iaload, 1) := by decide +kernel
theorem dL_law_848 : decode cL_law 848 = .ok (.aload_n 0, 1) := by decide +kernel
theorem dL_law_849 : decode cL_law 849 = .ok (.iload_n 3, 1) := by decide +kernel
theorem dL_law_850 : decode cL_law 850 = .ok (.iconst 2, 1) := by decide +kernel
theorem dL_law_851 : decode cL_law 851 = .ok (.iadd, 1) := by decide +kernel
theorem dL_law_852 : decode cL_law 852 = .ok (.iaload, 1) := by decide +kernel
theorem dL_law_853 : decode cL_law 853 = .ok (.invokevirtual 95, 3) := by decide +kernel
theorem dL_law_856 : decode cL_law 856 = .ok (.if_icmp .eq 286, 3) := by decide +kernel
theorem dL_law_859 : decode cL_law 859 = .ok (.iconst 0, 1) := by decide +kernel
theorem dL_law_860 : decode cL_law 860 = .ok (.ireturn, 1) := by decide +kernel
theorem dL_law_861 : decode cL_law 861 = .ok (.aload_n 1, 1) := by decide +kernel
theorem dL_law_862 : decode cL_law 862 = .ok (.aload_n 0, 1) := by decide +kernel
theorem dL_law_863 : decode cL_law 863 = .ok (.iload_n 3, 1) := by decide +kernel
theorem dL_law_864 : decode cL_law 864 = .ok (.iconst 1, 1) := by decide +kernel
theorem dL_law_865 : decode cL_law 865 = .ok (.iadd, 1) := by decide +kernel
theorem dL_law_866 : decode cL_law 866 = .ok (.iaload, 1) := by decide +kernel
theorem dL_law_867 : decode cL_law 867 = .ok (.invokevirtual 96, 3) := by decide +kernel
theorem dL_law_870 : decode cL_law 870 = .ok (.aload_n 2, 1) := by decide +kernel
theorem dL_law_871 : decode cL_law 871 = .ok (.aload_n 0, 1) := by decide +kernel
theorem dL_law_872 : decode cL_law 872 = .ok (.iload_n 3, 1) := by decide +kernel
theorem dL_law_873 : decode cL_law 873 = .ok (.iconst 1, 1) := by decide +kernel
theorem dL_law_874 : decode cL_law 874 = .ok (.iadd, 1) := by decide +kernel
theorem dL_law_875 : decode cL_law 875 = .ok (.iaload, 1) := by decide +kernel
theorem dL_law_876 : decode cL_law 876 = .ok (.invokevirtual 100, 3) := by decide +kernel
theorem dL_law_879 : decode cL_law 879 = .ok (.lcmp, 1) := by decide +kernel
theorem dL_law_880 : decode cL_law 880 = .ok (.ifCond .eq 262, 3) := by decide +kernel
theorem dL_law_883 : decode cL_law 883 = .ok (.iconst 0, 1) := by decide +kernel
theorem dL_law_884 : decode cL_law 884 = .ok (.ireturn, 1) := by decide +kernel
theorem dL_law_885 : decode cL_law 885 = .ok (.aload_n 1, 1) := by decide +kernel
theorem dL_law_886 : decode cL_law 886 = .ok (.aload_n 0, 1) := by decide +kernel
theorem dL_law_887 : decode cL_law 887 = .ok (.iload_n 3, 1) := by decide +kernel
theorem dL_law_888 : decode cL_law 888 = .ok (.iconst 1, 1) := by decide +kernel
theorem dL_law_889 : decode cL_law 889 = .ok (.iadd, 1) := by decide +kernel
theorem dL_law_890 : decode cL_law 890 = .ok (.iaload, 1) := by decide +kernel
theorem dL_law_891 : decode cL_law 891 = .ok (.i2l, 1) := by decide +kernel
theorem dL_law_892 : decode cL_law 892 = .ok (.bipush 32, 2) := by decide +kernel
theorem dL_law_894 : decode cL_law 894 = .ok (.lshl, 1) := by decide +kernel
theorem dL_law_895 : decode cL_law 895 = .ok (.aload_n 0, 1) := by decide +kernel
theorem dL_law_896 : decode cL_law 896 = .ok (.iload_n 3, 1) := by decide +kernel
theorem dL_law_897 : decode cL_law 897 = .ok (.iconst 2, 1) := by decide +kernel
theorem dL_law_898 : decode cL_law 898 = .ok (.iadd, 1) := by decide +kernel
theorem dL_law_899 : decode cL_law 899 = .ok (.iaload, 1) := by decide +kernel
theorem dL_law_900 : decode cL_law 900 = .ok (.i2l, 1) := by decide +kernel
theorem dL_law_901 : decode cL_law 901 = .ok (.ldc2_w 13, 3) := by decide +kernel
theorem dL_law_904 : decode cL_law 904 = .ok (.land, 1) := by decide +kernel
theorem dL_law_905 : decode cL_law 905 = .ok (.lor, 1) := by decide +kernel
theorem dL_law_906 : decode cL_law 906 = .ok (.invokevirtual 101, 3) := by decide +kernel
theorem dL_law_909 : decode cL_law 909 = .ok (.aload_n 2, 1) := by decide +kernel
theorem dL_law_910 : decode cL_law 910 = .ok (.aload_n 0, 1) := by decide +kernel
theorem dL_law_911 : decode cL_law 911 = .ok (.iload_n 3, 1) := by decide +kernel
theorem dL_law_912 : decode cL_law 912 = .ok (.iconst 1, 1) := by decide +kernel
theorem dL_law_913 : decode cL_law 913 = .ok (.iadd, 1) := by decide +kernel
theorem dL_law_914 : decode cL_law 914 = .ok (.iaload, 1) := by decide +kernel
theorem dL_law_915 : decode cL_law 915 = .ok (.i2l, 1) := by decide +kernel
theorem dL_law_916 : decode cL_law 916 = .ok (.bipush 32, 2) := by decide +kernel
theorem dL_law_918 : decode cL_law 918 = .ok (.lshl, 1) := by decide +kernel
theorem dL_law_919 : decode cL_law 919 = .ok (.aload_n 0, 1) := by decide +kernel
theorem dL_law_920 : decode cL_law 920 = .ok (.iload_n 3, 1) := by decide +kernel
theorem dL_law_921 : decode cL_law 921 = .ok (.iconst 2, 1) := by decide +kernel
theorem dL_law_922 : decode cL_law 922 = .ok (.iadd, 1) := by decide +kernel
theorem dL_law_923 : decode cL_law 923 = .ok (.iaload, 1) := by decide +kernel
theorem dL_law_924 : decode cL_law 924 = .ok (.i2l, 1) := by decide +kernel
theorem dL_law_925 : decode cL_law 925 = .ok (.ldc2_w 13, 3) := by decide +kernel
theorem dL_law_928 : decode cL_law 928 = .ok (.land, 1) := by decide +kernel
theorem dL_law_929 : decode cL_law 929 = .ok (.lor, 1) := by decide +kernel
theorem dL_law_930 : decode cL_law 930 = .ok (.invokevirtual 105, 3) := by decide +kernel
theorem dL_law_933 : decode cL_law 933 = .ok (.if_icmp .eq 209, 3) := by decide +kernel
theorem dL_law_936 : decode cL_law 936 = .ok (.iconst 0, 1) := by decide +kernel
theorem dL_law_937 : decode cL_law 937 = .ok (.ireturn, 1) := by decide +kernel
theorem dL_law_938 : decode cL_law 938 = .ok (.aload_n 1, 1) := by decide +kernel
theorem dL_law_939 : decode cL_law 939 = .ok (.aload_n 0, 1) := by decide +kernel
theorem dL_law_940 : decode cL_law 940 = .ok (.iload_n 3, 1) := by decide +kernel
theorem dL_law_941 : decode cL_law 941 = .ok (.iconst 1, 1) := by decide +kernel
theorem dL_law_942 : decode cL_law 942 = .ok (.iadd, 1) := by decide +kernel
theorem dL_law_943 : decode cL_law 943 = .ok (.iaload, 1) := by decide +kernel
theorem dL_law_944 : decode cL_law 944 = .ok (.aload_n 0, 1) := by decide +kernel
theorem dL_law_945 : decode cL_law 945 = .ok (.iload_n 3, 1) := by decide +kernel
theorem dL_law_946 : decode cL_law 946 = .ok (.iconst 2, 1) := by decide +kernel
theorem dL_law_947 : decode cL_law 947 = .ok (.iadd, 1) := by decide +kernel
theorem dL_law_948 : decode cL_law 948 = .ok (.iaload, 1) := by decide +kernel
theorem dL_law_949 : decode cL_law 949 = .ok (.invokevirtual 106, 3) := by decide +kernel
theorem dL_law_952 : decode cL_law 952 = .ok (.aload_n 2, 1) := by decide +kernel
theorem dL_law_953 : decode cL_law 953 = .ok (.aload_n 0, 1) := by decide +kernel
theorem dL_law_954 : decode cL_law 954 = .ok (.iload_n 3, 1) := by decide +kernel
theorem dL_law_955 : decode cL_law 955 = .ok (.iconst 1, 1) := by decide +kernel
theorem dL_law_956 : decode cL_law 956 = .ok (.iadd, 1) := by decide +kernel
theorem dL_law_957 : decode cL_law 957 = .ok (.iaload, 1) := by decide +kernel
theorem dL_law_958 : decode cL_law 958 = .ok (.aload_n 0, 1) := by decide +kernel
theorem dL_law_959 : decode cL_law 959 = .ok (.iload_n 3, 1) := by decide +kernel
theorem dL_law_960 : decode cL_law 960 = .ok (.iconst 2, 1) := by decide +kernel
theorem dL_law_961 : decode cL_law 961 = .ok (.iadd, 1) := by decide +kernel
theorem dL_law_962 : decode cL_law 962 = .ok (.iaload, 1) := by decide +kernel
theorem dL_law_963 : decode cL_law 963 = .ok (.invokevirtual 109, 3) := by decide +kernel
theorem dL_law_966 : decode cL_law 966 = .ok (.if_icmp .eq 176, 3) := by decide +kernel
theorem dL_law_969 : decode cL_law 969 = .ok (.iconst 0, 1) := by decide +kernel
theorem dL_law_970 : decode cL_law 970 = .ok (.ireturn, 1) := by decide +kernel
theorem dL_law_971 : decode cL_law 971 = .ok (.aload_n 1, 1) := by decide +kernel
theorem dL_law_972 : decode cL_law 972 = .ok (.aload_n 0, 1) := by decide +kernel
theorem dL_law_973 : decode cL_law 973 = .ok (.iload_n 3, 1) := by decide +kernel
theorem dL_law_974 : decode cL_law 974 = .ok (.iconst 1, 1) := by decide +kernel
theorem dL_law_975 : decode cL_law 975 = .ok (.iadd, 1) := by decide +kernel
theorem dL_law_976 : decode cL_law 976 = .ok (.iaload, 1) := by decide +kernel
theorem dL_law_977 : decode cL_law 977 = .ok (.aload_n 0, 1) := by decide +kernel
theorem dL_law_978 : decode cL_law 978 = .ok (.iload_n 3, 1) := by decide +kernel
theorem dL_law_979 : decode cL_law 979 = .ok (.iconst 2, 1) := by decide +kernel
theorem dL_law_980 : decode cL_law 980 = .ok (.iadd, 1) := by decide +kernel
theorem dL_law_981 : decode cL_law 981 = .ok (.iaload, 1) := by decide +kernel
theorem dL_law_982 : decode cL_law 982 = .ok (.invokevirtual 110, 3) := by decide +kernel
theorem dL_law_985 : decode cL_law 985 = .ok (.aload_n 2, 1) := by decide +kernel
theorem dL_law_986 : decode cL_law 986 = .ok (.aload_n 0, 1) := by decide +kernel
theorem dL_law_987 : decode cL_law 987 = .ok (.iload_n 3, 1) := by decide +kernel
theorem dL_law_988 : decode cL_law 988 = .ok (.iconst 1, 1) := by decide +kernel
theorem dL_law_989 : decode cL_law 989 = .ok (.iadd, 1) := by decide +kernel
theorem dL_law_990 : decode cL_law 990 = .ok (.iaload, 1) := by decide +kernel
theorem dL_law_991 : decode cL_law 991 = .ok (.aload_n 0, 1) := by decide +kernel
theorem dL_law_992 : decode cL_law 992 = .ok (.iload_n 3, 1) := by decide +kernel
theorem dL_law_993 : decode cL_law 993 = .ok (.iconst 2, 1) := by decide +kernel
theorem dL_law_994 : decode cL_law 994 = .ok (.iadd, 1) := by decide +kernel
theorem dL_law_995 : decode cL_law 995 = .ok (.iaload, 1) := by decide +kernel
theorem dL_law_996 : decode cL_law 996 = .ok (.invokevirtual 113, 3) := by decide +kernel
theorem dL_law_999 : decode cL_law 999 = .ok (.if_icmp .eq 143, 3) := by decide +kernel
theorem dL_law_1002 : decode cL_law 1002 = .ok (.iconst 0, 1) := by decide +kernel
theorem dL_law_1003 : decode cL_law 1003 = .ok (.ireturn, 1) := by decide +kernel
theorem dL_law_1004 : decode cL_law 1004 = .ok (.aload_n 1, 1) := by decide +kernel
theorem dL_law_1005 : decode cL_law 1005 = .ok (.invokevirtual 114, 3) := by decide +kernel
theorem dL_law_1008 : decode cL_law 1008 = .ok (.aload_n 2, 1) := by decide +kernel
theorem dL_law_1009 : decode cL_law 1009 = .ok (.invokevirtual 117, 3) := by decide +kernel
theorem dL_law_1012 : decode cL_law 1012 = .ok (.if_icmp .eq 130, 3) := by decide +kernel
theorem dL_law_1015 : decode cL_law 1015 = .ok (.iconst 0, 1) := by decide +kernel
theorem dL_law_1016 : decode cL_law 1016 = .ok (.ireturn, 1) := by decide +kernel
theorem dL_law_1017 : decode cL_law 1017 = .ok (.aload_n 1, 1) := by decide +kernel
theorem dL_law_1018 : decode cL_law 1018 = .ok (.invokevirtual 118, 3) := by decide +kernel
theorem dL_law_1021 : decode cL_law 1021 = .ok (.aload_n 2, 1) := by decide +kernel
theorem dL_law_1022 : decode cL_law 1022 = .ok (.invokevirtual 121, 3) := by decide +kernel
theorem dL_law_1025 : decode cL_law 1025 = .ok (.if_icmp .eq 117, 3) := by decide +kernel
theorem dL_law_1028 : decode cL_law 1028 = .ok (.iconst 0, 1) := by decide +kernel
theorem dL_law_1029 : decode cL_law 1029 = .ok (.ireturn, 1) := by decide +kernel
theorem dL_law_1030 : decode cL_law 1030 = .ok (.aload_n 1, 1) := by decide +kernel
theorem dL_law_1031 : decode cL_law 1031 = .ok (.aload_n 0, 1) := by decide +kernel
theorem dL_law_1032 : decode cL_law 1032 = .ok (.iload_n 3, 1) := by decide +kernel
theorem dL_law_1033 : decode cL_law 1033 = .ok (.iconst 1, 1) := by decide +kernel
theorem dL_law_1034 : decode cL_law 1034 = .ok (.iadd, 1) := by decide +kernel
theorem dL_law_1035 : decode cL_law 1035 = .ok (.iaload, 1) := by decide +kernel
theorem dL_law_1036 : decode cL_law 1036 = .ok (.aload_n 0, 1) := by decide +kernel
theorem dL_law_1037 : decode cL_law 1037 = .ok (.iload_n 3, 1) := by decide +kernel
theorem dL_law_1038 : decode cL_law 1038 = .ok (.iconst 2, 1) := by decide +kernel
theorem dL_law_1039 : decode cL_law 1039 = .ok (.iadd, 1) := by decide +kernel
theorem dL_law_1040 : decode cL_law 1040 = .ok (.iaload, 1) := by decide +kernel
theorem dL_law_1041 : decode cL_law 1041 = .ok (.invokevirtual 122, 3) := by decide +kernel
theorem dL_law_1044 : decode cL_law 1044 = .ok (.aload_n 2, 1) := by decide +kernel
theorem dL_law_1045 : decode cL_law 1045 = .ok (.aload_n 0, 1) := by decide +kernel
theorem dL_law_1046 : decode cL_law 1046 = .ok (.iload_n 3, 1) := by decide +kernel
theorem dL_law_1047 : decode cL_law 1047 = .ok (.iconst 1, 1) := by decide +kernel
theorem dL_law_1048 : decode cL_law 1048 = .ok (.iadd, 1) := by decide +kernel
theorem dL_law_1049 : decode cL_law 1049 = .ok (.iaload, 1) := by decide +kernel
theorem dL_law_1050 : decode cL_law 1050 = .ok (.aload_n 0, 1) := by decide +kernel
theorem dL_law_1051 : decode cL_law 1051 = .ok (.iload_n 3, 1) := by decide +kernel
theorem dL_law_1052 : decode cL_law 1052 = .ok (.iconst 2, 1) := by decide +kernel
theorem dL_law_1053 : decode cL_law 1053 = .ok (.iadd, 1) := by decide +kernel
theorem dL_law_1054 : decode cL_law 1054 = .ok (.iaload, 1) := by decide +kernel
theorem dL_law_1055 : decode cL_law 1055 = .ok (.invokevirtual 125, 3) := by decide +kernel
theorem dL_law_1058 : decode cL_law 1058 = .ok (.if_icmp .eq 84, 3) := by decide +kernel
theorem dL_law_1061 : decode cL_law 1061 = .ok (.iconst 0, 1) := by decide +kernel
theorem dL_law_1062 : decode cL_law 1062 = .ok (.ireturn, 1) := by decide +kernel
theorem dL_law_1063 : decode cL_law 1063 = .ok (.aload_n 1, 1) := by decide +kernel
theorem dL_law_1064 : decode cL_law 1064 = .ok (.aload_n 0, 1) := by decide +kernel
theorem dL_law_1065 : decode cL_law 1065 = .ok (.iload_n 3, 1) := by decide +kernel
theorem dL_law_1066 : decode cL_law 1066 = .ok (.iconst 1, 1) := by decide +kernel
theorem dL_law_1067 : decode cL_law 1067 = .ok (.iadd, 1) := by decide +kernel
theorem dL_law_1068 : decode cL_law 1068 = .ok (.iaload, 1) := by decide +kernel
theorem dL_law_1069 : decode cL_law 1069 = .ok (.invokevirtual 126, 3) := by decide +kernel
theorem dL_law_1072 : decode cL_law 1072 = .ok (.aload_n 2, 1) := by decide +kernel
theorem dL_law_1073 : decode cL_law 1073 = .ok (.aload_n 0, 1) := by decide +kernel
theorem dL_law_1074 : decode cL_law 1074 = .ok (.iload_n 3, 1) := by decide +kernel
theorem dL_law_1075 : decode cL_law 1075 = .ok (.iconst 1, 1) := by decide +kernel
theorem dL_law_1076 : decode cL_law 1076 = .ok (.iadd, 1) := by decide +kernel
theorem dL_law_1077 : decode cL_law 1077 = .ok (.iaload, 1) := by decide +kernel
theorem dL_law_1078 : decode cL_law 1078 = .ok (.invokevirtual 129, 3) := by decide +kernel
theorem dL_law_1081 : decode cL_law 1081 = .ok (.if_icmp .eq 61, 3) := by decide +kernel
theorem dL_law_1084 : decode cL_law 1084 = .ok (.iconst 0, 1) := by decide +kernel
theorem dL_law_1085 : decode cL_law 1085 = .ok (.ireturn, 1) := by decide +kernel
theorem dL_law_1086 : decode cL_law 1086 = .ok (.aload_n 1, 1) := by decide +kernel
theorem dL_law_1087 : decode cL_law 1087 = .ok (.aload_n 0, 1) := by decide +kernel
theorem dL_law_1088 : decode cL_law 1088 = .ok (.iload_n 3, 1) := by decide +kernel
theorem dL_law_1089 : decode cL_law 1089 = .ok (.iconst 1, 1) := by decide +kernel
theorem dL_law_1090 : decode cL_law 1090 = .ok (.iadd, 1) := by decide +kernel
theorem dL_law_1091 : decode cL_law 1091 = .ok (.iaload, 1) := by decide +kernel
theorem dL_law_1092 : decode cL_law 1092 = .ok (.invokevirtual 130, 3) := by decide +kernel
theorem dL_law_1095 : decode cL_law 1095 = .ok (.aload_n 2, 1) := by decide +kernel
theorem dL_law_1096 : decode cL_law 1096 = .ok (.aload_n 0, 1) := by decide +kernel
theorem dL_law_1097 : decode cL_law 1097 = .ok (.iload_n 3, 1) := by decide +kernel
theorem dL_law_1098 : decode cL_law 1098 = .ok (.iconst 1, 1) := by decide +kernel
theorem dL_law_1099 : decode cL_law 1099 = .ok (.iadd, 1) := by decide +kernel
theorem dL_law_1100 : decode cL_law 1100 = .ok (.iaload, 1) := by decide +kernel
theorem dL_law_1101 : decode cL_law 1101 = .ok (.invokevirtual 133, 3) := by decide +kernel
theorem dL_law_1104 : decode cL_law 1104 = .ok (.if_icmp .eq 38, 3) := by decide +kernel
theorem dL_law_1107 : decode cL_law 1107 = .ok (.iconst 0, 1) := by decide +kernel
theorem dL_law_1108 : decode cL_law 1108 = .ok (.ireturn, 1) := by decide +kernel
theorem dL_law_1109 : decode cL_law 1109 = .ok (.aload_n 1, 1) := by decide +kernel
theorem dL_law_1110 : decode cL_law 1110 = .ok (.aload_n 0, 1) := by decide +kernel
theorem dL_law_1111 : decode cL_law 1111 = .ok (.iload_n 3, 1) := by decide +kernel
theorem dL_law_1112 : decode cL_law 1112 = .ok (.iconst 1, 1) := by decide +kernel
theorem dL_law_1113 : decode cL_law 1113 = .ok (.iadd, 1) := by decide +kernel
theorem dL_law_1114 : decode cL_law 1114 = .ok (.iaload, 1) := by decide +kernel
theorem dL_law_1115 : decode cL_law 1115 = .ok (.aload_n 0, 1) := by decide +kernel
theorem dL_law_1116 : decode cL_law 1116 = .ok (.iload_n 3, 1) := by decide +kernel
theorem dL_law_1117 : decode cL_law 1117 = .ok (.iconst 2, 1) := by decide +kernel
theorem dL_law_1118 : decode cL_law 1118 = .ok (.iadd, 1) := by decide +kernel
theorem dL_law_1119 : decode cL_law 1119 = .ok (.iaload, 1) := by decide +kernel
theorem dL_law_1120 : decode cL_law 1120 = .ok (.invokevirtual 134, 3) := by decide +kernel
theorem dL_law_1123 : decode cL_law 1123 = .ok (.aload_n 2, 1) := by decide +kernel
theorem dL_law_1124 : decode cL_law 1124 = .ok (.aload_n 0, 1) := by decide +kernel
theorem dL_law_1125 : decode cL_law 1125 = .ok (.iload_n 3, 1) := by decide +kernel
theorem dL_law_1126 : decode cL_law 1126 = .ok (.iconst 1, 1) := by decide +kernel
theorem dL_law_1127 : decode cL_law 1127 = .ok (.iadd, 1) := by decide +kernel
theorem dL_law_1128 : decode cL_law 1128 = .ok (.iaload, 1) := by decide +kernel
theorem dL_law_1129 : decode cL_law 1129 = .ok (.aload_n 0, 1) := by decide +kernel
theorem dL_law_1130 : decode cL_law 1130 = .ok (.iload_n 3, 1) := by decide +kernel
theorem dL_law_1131 : decode cL_law 1131 = .ok (.iconst 2, 1) := by decide +kernel
theorem dL_law_1132 : decode cL_law 1132 = .ok (.iadd, 1) := by decide +kernel
theorem dL_law_1133 : decode cL_law 1133 = .ok (.iaload, 1) := by decide +kernel
theorem dL_law_1134 : decode cL_law 1134 = .ok (.invokevirtual 137, 3) := by decide +kernel
theorem dL_law_1137 : decode cL_law 1137 = .ok (.if_icmp .eq 5, 3) := by decide +kernel
theorem dL_law_1140 : decode cL_law 1140 = .ok (.iconst 0, 1) := by decide +kernel
theorem dL_law_1141 : decode cL_law 1141 = .ok (.ireturn, 1) := by decide +kernel
theorem dL_law_1142 : decode cL_law 1142 = .ok (.iinc 3 8, 3) := by decide +kernel
theorem dL_law_1145 : decode cL_law 1145 = .ok (.goto (-1127), 3) := by decide +kernel
theorem dL_law_1148 : decode cL_law 1148 = .ok (.iconst 1, 1) := by decide +kernel
theorem dL_law_1149 : decode cL_law 1149 = .ok (.ireturn, 1) := by decide +kernel
/-! SealLineLaw.law([I)Z -/
def bL_law_0 (G : Nat × Nat × Nat × Option (Nat × (Nat → Int32)) × (Option Value → qW → Prop)) : qK := (s_new (mL_law, G) 10 11 [.null, .null, .null, .null, .null, .null, .null, .null, .null, .null, .int 0] (s_dup (AW (mL_law, G) 4)))
theorem oL_law_0 (G : Nat × Nat × Nat × Option (Nat × (Nat → Int32)) × (Option Value → qW → Prop)) : qImp (bL_law_0 G) (AW (mL_law, G) 0) := (r_new dL_law_0 nwL_7 (r_dup dL_law_3 qImp.rf))
def bL_law_7 (G : Nat × Nat × Nat × Option (Nat × (Nat → Int32)) × (Option Value → qW → Prop)) : qK := (s_astore 1 0 (s_new (mL_law, G) 11 39 [.int 0, .int 0, .int 0, .int 0, .int 0, .int 0, .null, .null, .null, .null, .null, .null, .null, .null, .null, .null, .null, .null, .null, .null, .null, .null, .null, .null, .null, .null, .null, .null, .null, .null, .null, .null, .int 0, .int 0, .int 0, .int 0, .int 0, .null, .null] (s_dup (AW (mL_law, G) 12))))
theorem oL_law_7 (G : Nat × Nat × Nat × Option (Nat × (Nat → Int32)) × (Option Value → qW → Prop)) : qImp (bL_law_7 G) (AW (mL_law, G) 7) := (r_astore_n dL_law_7 rfl (Or.inr rfl) (Nat.le_of_ble_eq_true rfl) (r_new dL_law_8 nwL_10 (r_dup dL_law_11 qImp.rf)))
def bL_law_15 (G : Nat × Nat × Nat × Option (Nat × (Nat → Int32)) × (Option Value → qW → Prop)) : qK := (s_astore 2 1 (s_iconst 0 (s_istore 3 2 (AW (mL_law, G) 18))))
theorem oL_law_15 (G : Nat × Nat × Nat × Option (Nat × (Nat → Int32)) × (Option Value → qW → Prop)) : qImp (bL_law_15 G) (AW (mL_law, G) 15) := (r_astore_n dL_law_15 rfl (Or.inr rfl) (Nat.le_of_ble_eq_true rfl) (r_iconst dL_law_16 rfl (r_istore_n dL_law_17 rfl (Or.inr rfl) (Nat.le_of_ble_eq_true rfl) qImp.rf)))
def bL_law_18 (G : Nat × Nat × Nat × Option (Nat × (Nat → Int32)) × (Option Value → qW → Prop)) : qK := (s_iload 3 (s_aload 0 (s_alen (mL_law, G) (s_iconst 8 (s_isub (s_ic_gt (AW (mL_law, G) 1148) (s_aload 0 (s_iload 3 (s_iaload (mL_law, G) (s_iconst 31 (s_iand (AW (mL_law, G) 33))))))))))))
theorem oL_law_18 (G : Nat × Nat × Nat × Option (Nat × (Nat → Int32)) × (Option Value → qW → Prop)) : qImp (bL_law_18 G) (AW (mL_law, G) 18) := (r_iload_n dL_law_18 rfl (r_aload_n dL_law_19 rfl (r_alen dL_law_20 (r_bipush dL_law_21 rfl (r_isub dL_law_23 (r_ic_gt (tgt := 1148) dL_law_24 rfl qImp.rf (r_aload_n dL_law_27 rfl (r_iload_n dL_law_28 rfl (r_iaload dL_law_29 (r_bipush dL_law_30 rfl (r_iand dL_law_32 qImp.rf)))))))))))
def bL_law_160 (G : Nat × Nat × Nat × Option (Nat × (Nat → Int32)) × (Option Value → qW → Prop)) : qK := (s_aload 1 (s_aload 0 (s_iload 3 (s_iconst 1 (s_iadd (s_iaload (mL_law, G) (s_aload 0 (s_iload 3 (s_iconst 2 (s_iadd (s_iaload (mL_law, G) (s_i2l (s_iconst 32 (s_lshl (s_aload 0 (s_iload 3 (s_iconst 3 (s_iadd (s_iaload (mL_law, G) (s_i2l (s_lconst 4294967295 (s_land (s_lor (AW (mL_law, G) 186))))))))))))))))))))))))
theorem oL_law_160 (G : Nat × Nat × Nat × Option (Nat × (Nat → Int32)) × (Option Value → qW → Prop)) : qImp (bL_law_160 G) (AW (mL_law, G) 160) := (r_aload_n dL_law_160 rfl (r_aload_n dL_law_161 rfl (r_iload_n dL_law_162 rfl (r_iconst dL_law_163 rfl (r_iadd dL_law_164 (r_iaload dL_law_165 (r_aload_n dL_law_166 rfl (r_iload_n dL_law_167 rfl (r_iconst dL_law_168 rfl (r_iadd dL_law_169 (r_iaload dL_law_170 (r_i2l dL_law_171 (r_bipush dL_law_172 rfl (r_lshl dL_law_174 (r_aload_n dL_law_175 rfl (r_iload_n dL_law_176 rfl (r_iconst dL_law_177 rfl (r_iadd dL_law_178 (r_iaload dL_law_179 (r_i2l dL_law_180 (r_ldc2 dL_law_181 lk1268 (r_land dL_law_184 (r_lor dL_law_185 qImp.rf)))))))))))))))))))))))
def bL_law_189 (G : Nat × Nat × Nat × Option (Nat × (Nat → Int32)) × (Option Value → qW → Prop)) : qK := (s_aload 2 (s_aload 0 (s_iload 3 (s_iconst 1 (s_iadd (s_iaload (mL_law, G) (s_aload 0 (s_iload 3 (s_iconst 2 (s_iadd (s_iaload (mL_law, G) (s_i2l (s_iconst 32 (s_lshl (s_aload 0 (s_iload 3 (s_iconst 3 (s_iadd (s_iaload (mL_law, G) (s_i2l (s_lconst 4294967295 (s_land (s_lor (AW (mL_law, G) 215))))))))))))))))))))))))
theorem oL_law_189 (G : Nat × Nat × Nat × Option (Nat × (Nat → Int32)) × (Option Value → qW → Prop)) : qImp (bL_law_189 G) (AW (mL_law, G) 189) := (r_aload_n dL_law_189 rfl (r_aload_n dL_law_190 rfl (r_iload_n dL_law_191 rfl (r_iconst dL_law_192 rfl (r_iadd dL_law_193 (r_iaload dL_law_194 (r_aload_n dL_law_195 rfl (r_iload_n dL_law_196 rfl (r_iconst dL_law_197 rfl (r_iadd dL_law_198 (r_iaload dL_law_199 (r_i2l dL_law_200 (r_bipush dL_law_201 rfl (r_lshl dL_law_203 (r_aload_n dL_law_204 rfl (r_iload_n dL_law_205 rfl (r_iconst dL_law_206 rfl (r_iadd dL_law_207 (r_iaload dL_law_208 (r_i2l dL_law_209 (r_ldc2 dL_law_210 lk1268 (r_land dL_law_213 (r_lor dL_law_214 qImp.rf)))))))))))))))))))))))
def bL_law_218 (G : Nat × Nat × Nat × Option (Nat × (Nat → Int32)) × (Option Value → qW → Prop)) : qK := (s_ic_eq (AW (mL_law, G) 1142) (s_iconst 0 (s_zreturn (mL_law, G))))
theorem oL_law_218 (G : Nat × Nat × Nat × Option (Nat × (Nat → Int32)) × (Option Value → qW → Prop)) : qImp (bL_law_218 G) (AW (mL_law, G) 218) := (r_ic_eq (tgt := 1142) dL_law_218 rfl qImp.rf (r_iconst dL_law_221 rfl (r_zreturn dL_law_222 rfl)))
def bL_law_223 (G : Nat × Nat × Nat × Option (Nat × (Nat → Int32)) × (Option Value → qW → Prop)) : qK := (s_aload 1 (s_aload 0 (s_iload 3 (s_iconst 1 (s_iadd (s_iaload (mL_law, G) (s_aload 0 (s_iload 3 (s_iconst 2 (s_iadd (s_iaload (mL_law, G) (s_aload 0 (s_iload 3 (s_iconst 3 (s_iadd (s_iaload (mL_law, G) (s_aload 0 (s_iload 3 (s_iconst 4 (s_iadd (s_iaload (mL_law, G) (s_aload 0 (s_iload 3 (s_iconst 5 (s_iadd (s_iaload (mL_law, G) (s_aload 0 (s_iload 3 (s_iconst 6 (s_iadd (s_iaload (mL_law, G) (s_i2l (s_iconst 32 (s_lshl (s_aload 0 (s_iload 3 (s_iconst 7 (s_iadd (s_iaload (mL_law, G) (s_i2l (s_lconst 4294967295 (s_land (s_lor (AW (mL_law, G) 271))))))))))))))))))))))))))))))))))))))))))))
theorem oL_law_223 (G : Nat × Nat × Nat × Option (Nat × (Nat → Int32)) × (Option Value → qW → Prop)) : qImp (bL_law_223 G) (AW (mL_law, G) 223) := (r_aload_n dL_law_223 rfl (r_aload_n dL_law_224 rfl (r_iload_n dL_law_225 rfl (r_iconst dL_law_226 rfl (r_iadd dL_law_227 (r_iaload dL_law_228 (r_aload_n dL_law_229 rfl (r_iload_n dL_law_230 rfl (r_iconst dL_law_231 rfl (r_iadd dL_law_232 (r_iaload dL_law_233 (r_aload_n dL_law_234 rfl (r_iload_n dL_law_235 rfl (r_iconst dL_law_236 rfl (r_iadd dL_law_237 (r_iaload dL_law_238 (r_aload_n dL_law_239 rfl (r_iload_n dL_law_240 rfl (r_iconst dL_law_241 rfl (r_iadd dL_law_242 (r_iaload dL_law_243 (r_aload_n dL_law_244 rfl (r_iload_n dL_law_245 rfl (r_iconst dL_law_246 rfl (r_iadd dL_law_247 (r_iaload dL_law_248 (r_aload_n dL_law_249 rfl (r_iload_n dL_law_250 rfl (r_bipush dL_law_251 rfl (r_iadd dL_law_253 (r_iaload dL_law_254 (r_i2l dL_law_255 (r_bipush dL_law_256 rfl (r_lshl dL_law_258 (r_aload_n dL_law_259 rfl (r_iload_n dL_law_260 rfl (r_bipush dL_law_261 rfl (r_iadd dL_law_263 (r_iaload dL_law_264 (r_i2l dL_law_265 (r_ldc2 dL_law_266 lk1268 (r_land dL_law_269 (r_lor dL_law_270 qImp.rf)))))))))))))))))))))))))))))))))))))))))))
def bL_law_274 (G : Nat × Nat × Nat × Option (Nat × (Nat → Int32)) × (Option Value → qW → Prop)) : qK := (s_aload 2 (s_aload 0 (s_iload 3 (s_iconst 1 (s_iadd (s_iaload (mL_law, G) (s_aload 0 (s_iload 3 (s_iconst 2 (s_iadd (s_iaload (mL_law, G) (s_aload 0 (s_iload 3 (s_iconst 3 (s_iadd (s_iaload (mL_law, G) (s_aload 0 (s_iload 3 (s_iconst 4 (s_iadd (s_iaload (mL_law, G) (s_aload 0 (s_iload 3 (s_iconst 5 (s_iadd (s_iaload (mL_law, G) (s_aload 0 (s_iload 3 (s_iconst 6 (s_iadd (s_iaload (mL_law, G) (s_i2l (s_iconst 32 (s_lshl (s_aload 0 (s_iload 3 (s_iconst 7 (s_iadd (s_iaload (mL_law, G) (s_i2l (s_lconst 4294967295 (s_land (s_lor (AW (mL_law, G) 322))))))))))))))))))))))))))))))))))))))))))))
theorem oL_law_274 (G : Nat × Nat × Nat × Option (Nat × (Nat → Int32)) × (Option Value → qW → Prop)) : qImp (bL_law_274 G) (AW (mL_law, G) 274) := (r_aload_n dL_law_274 rfl (r_aload_n dL_law_275 rfl (r_iload_n dL_law_276 rfl (r_iconst dL_law_277 rfl (r_iadd dL_law_278 (r_iaload dL_law_279 (r_aload_n dL_law_280 rfl (r_iload_n dL_law_281 rfl (r_iconst dL_law_282 rfl (r_iadd dL_law_283 (r_iaload dL_law_284 (r_aload_n dL_law_285 rfl (r_iload_n dL_law_286 rfl (r_iconst dL_law_287 rfl (r_iadd dL_law_288 (r_iaload dL_law_289 (r_aload_n dL_law_290 rfl (r_iload_n dL_law_291 rfl (r_iconst dL_law_292 rfl (r_iadd dL_law_293 (r_iaload dL_law_294 (r_aload_n dL_law_295 rfl (r_iload_n dL_law_296 rfl (r_iconst dL_law_297 rfl (r_iadd dL_law_298 (r_iaload dL_law_299 (r_aload_n dL_law_300 rfl (r_iload_n dL_law_301 rfl (r_bipush dL_law_302 rfl (r_iadd dL_law_304 (r_iaload dL_law_305 (r_i2l dL_law_306 (r_bipush dL_law_307 rfl (r_lshl dL_law_309 (r_aload_n dL_law_310 rfl (r_iload_n dL_law_311 rfl (r_bipush dL_law_312 rfl (r_iadd dL_law_314 (r_iaload dL_law_315 (r_i2l dL_law_316 (r_ldc2 dL_law_317 lk1268 (r_land dL_law_320 (r_lor dL_law_321 qImp.rf)))))))))))))))))))))))))))))))))))))))))))
def bL_law_325 (G : Nat × Nat × Nat × Option (Nat × (Nat → Int32)) × (Option Value → qW → Prop)) : qK := (s_ic_eq (AW (mL_law, G) 1142) (s_iconst 0 (s_zreturn (mL_law, G))))
theorem oL_law_325 (G : Nat × Nat × Nat × Option (Nat × (Nat → Int32)) × (Option Value → qW → Prop)) : qImp (bL_law_325 G) (AW (mL_law, G) 325) := (r_ic_eq (tgt := 1142) dL_law_325 rfl qImp.rf (r_iconst dL_law_328 rfl (r_zreturn dL_law_329 rfl)))
def bL_law_330 (G : Nat × Nat × Nat × Option (Nat × (Nat → Int32)) × (Option Value → qW → Prop)) : qK := (s_aload 1 (s_aload 0 (s_iload 3 (s_iconst 1 (s_iadd (s_iaload (mL_law, G) (s_aload 0 (s_iload 3 (s_iconst 2 (s_iadd (s_iaload (mL_law, G) (s_aload 0 (s_iload 3 (s_iconst 3 (s_iadd (s_iaload (mL_law, G) (s_aload 0 (s_iload 3 (s_iconst 4 (s_iadd (s_iaload (mL_law, G) (AW (mL_law, G) 351))))))))))))))))))))))
theorem oL_law_330 (G : Nat × Nat × Nat × Option (Nat × (Nat → Int32)) × (Option Value → qW → Prop)) : qImp (bL_law_330 G) (AW (mL_law, G) 330) := (r_aload_n dL_law_330 rfl (r_aload_n dL_law_331 rfl (r_iload_n dL_law_332 rfl (r_iconst dL_law_333 rfl (r_iadd dL_law_334 (r_iaload dL_law_335 (r_aload_n dL_law_336 rfl (r_iload_n dL_law_337 rfl (r_iconst dL_law_338 rfl (r_iadd dL_law_339 (r_iaload dL_law_340 (r_aload_n dL_law_341 rfl (r_iload_n dL_law_342 rfl (r_iconst dL_law_343 rfl (r_iadd dL_law_344 (r_iaload dL_law_345 (r_aload_n dL_law_346 rfl (r_iload_n dL_law_347 rfl (r_iconst dL_law_348 rfl (r_iadd dL_law_349 (r_iaload dL_law_350 qImp.rf)))))))))))))))))))))
def bL_law_354 (G : Nat × Nat × Nat × Option (Nat × (Nat → Int32)) × (Option Value → qW → Prop)) : qK := (s_aload 2 (s_aload 0 (s_iload 3 (s_iconst 1 (s_iadd (s_iaload (mL_law, G) (s_aload 0 (s_iload 3 (s_iconst 2 (s_iadd (s_iaload (mL_law, G) (s_aload 0 (s_iload 3 (s_iconst 3 (s_iadd (s_iaload (mL_law, G) (s_aload 0 (s_iload 3 (s_iconst 4 (s_iadd (s_iaload (mL_law, G) (AW (mL_law, G) 375))))))))))))))))))))))
theorem oL_law_354 (G : Nat × Nat × Nat × Option (Nat × (Nat → Int32)) × (Option Value → qW → Prop)) : qImp (bL_law_354 G) (AW (mL_law, G) 354) := (r_aload_n dL_law_354 rfl (r_aload_n dL_law_355 rfl (r_iload_n dL_law_356 rfl (r_iconst dL_law_357 rfl (r_iadd dL_law_358 (r_iaload dL_law_359 (r_aload_n dL_law_360 rfl (r_iload_n dL_law_361 rfl (r_iconst dL_law_362 rfl (r_iadd dL_law_363 (r_iaload dL_law_364 (r_aload_n dL_law_365 rfl (r_iload_n dL_law_366 rfl (r_iconst dL_law_367 rfl (r_iadd dL_law_368 (r_iaload dL_law_369 (r_aload_n dL_law_370 rfl (r_iload_n dL_law_371 rfl (r_iconst dL_law_372 rfl (r_iadd dL_law_373 (r_iaload dL_law_374 qImp.rf)))))))))))))))))))))
def bL_law_378 (G : Nat × Nat × Nat × Option (Nat × (Nat → Int32)) × (Option Value → qW → Prop)) : qK := (s_lcmp (s_if_eq (AW (mL_law, G) 1142) (s_iconst 0 (s_zreturn (mL_law, G)))))
theorem oL_law_378 (G : Nat × Nat × Nat × Option (Nat × (Nat → Int32)) × (Option Value → qW → Prop)) : qImp (bL_law_378 G) (AW (mL_law, G) 378) := (r_lcmp dL_law_378 (r_if_eq (tgt := 1142) dL_law_379 rfl qImp.rf (r_iconst dL_law_382 rfl (r_zreturn dL_law_383 rfl))))
def bL_law_384 (G : Nat × Nat × Nat × Option (Nat × (Nat → Int32)) × (Option Value → qW → Prop)) : qK := (s_aload 1 (s_aload 0 (s_iload 3 (s_iconst 1 (s_iadd (s_iaload (mL_law, G) (s_aload 0 (s_iload 3 (s_iconst 2 (s_iadd (s_iaload (mL_law, G) (s_aload 0 (s_iload 3 (s_iconst 3 (s_iadd (s_iaload (mL_law, G) (s_if_eq (AW (mL_law, G) 407) (s_iconst 1 (AW (mL_law, G) 408)))))))))))))))))))
theorem oL_law_384 (G : Nat × Nat × Nat × Option (Nat × (Nat → Int32)) × (Option Value → qW → Prop)) : qImp (bL_law_384 G) (AW (mL_law, G) 384) := (r_aload_n dL_law_384 rfl (r_aload_n dL_law_385 rfl (r_iload_n dL_law_386 rfl (r_iconst dL_law_387 rfl (r_iadd dL_law_388 (r_iaload dL_law_389 (r_aload_n dL_law_390 rfl (r_iload_n dL_law_391 rfl (r_iconst dL_law_392 rfl (r_iadd dL_law_393 (r_iaload dL_law_394 (r_aload_n dL_law_395 rfl (r_iload_n dL_law_396 rfl (r_iconst dL_law_397 rfl (r_iadd dL_law_398 (r_iaload dL_law_399 (r_if_eq (tgt := 407) dL_law_400 rfl qImp.rf (r_iconst dL_law_403 rfl (r_goto (tgt := 408) dL_law_404 rfl qImp.rf)))))))))))))))))))
def bL_law_407 (G : Nat × Nat × Nat × Option (Nat × (Nat → Int32)) × (Option Value → qW → Prop)) : qK := (s_iconst 0 (AW (mL_law, G) 408))
theorem oL_law_407 (G : Nat × Nat × Nat × Option (Nat × (Nat → Int32)) × (Option Value → qW → Prop)) : qImp (bL_law_407 G) (AW (mL_law, G) 407) := (r_iconst dL_law_407 rfl qImp.rf)
def bL_law_411 (G : Nat × Nat × Nat × Option (Nat × (Nat → Int32)) × (Option Value → qW → Prop)) : qK := (s_aload 2 (s_aload 0 (s_iload 3 (s_iconst 1 (s_iadd (s_iaload (mL_law, G) (s_aload 0 (s_iload 3 (s_iconst 2 (s_iadd (s_iaload (mL_law, G) (s_aload 0 (s_iload 3 (s_iconst 3 (s_iadd (s_iaload (mL_law, G) (s_if_eq (AW (mL_law, G) 434) (s_iconst 1 (AW (mL_law, G) 435)))))))))))))))))))
theorem oL_law_411 (G : Nat × Nat × Nat × Option (Nat × (Nat → Int32)) × (Option Value → qW → Prop)) : qImp (bL_law_411 G) (AW (mL_law, G) 411) := (r_aload_n dL_law_411 rfl (r_aload_n dL_law_412 rfl (r_iload_n dL_law_413 rfl (r_iconst dL_law_414 rfl (r_iadd dL_law_415 (r_iaload dL_law_416 (r_aload_n dL_law_417 rfl (r_iload_n dL_law_418 rfl (r_iconst dL_law_419 rfl (r_iadd dL_law_420 (r_iaload dL_law_421 (r_aload_n dL_law_422 rfl (r_iload_n dL_law_423 rfl (r_iconst dL_law_424 rfl (r_iadd dL_law_425 (r_iaload dL_law_426 (r_if_eq (tgt := 434) dL_law_427 rfl qImp.rf (r_iconst dL_law_430 rfl (r_goto (tgt := 435) dL_law_431 rfl qImp.rf)))))))))))))))))))
def bL_law_434 (G : Nat × Nat × Nat × Option (Nat × (Nat → Int32)) × (Option Value → qW → Prop)) : qK := (s_iconst 0 (AW (mL_law, G) 435))
theorem oL_law_434 (G : Nat × Nat × Nat × Option (Nat × (Nat → Int32)) × (Option Value → qW → Prop)) : qImp (bL_law_434 G) (AW (mL_law, G) 434) := (r_iconst dL_law_434 rfl qImp.rf)
def bL_law_438 (G : Nat × Nat × Nat × Option (Nat × (Nat → Int32)) × (Option Value → qW → Prop)) : qK := (s_ic_eq (AW (mL_law, G) 1142) (s_iconst 0 (s_zreturn (mL_law, G))))
theorem oL_law_438 (G : Nat × Nat × Nat × Option (Nat × (Nat → Int32)) × (Option Value → qW → Prop)) : qImp (bL_law_438 G) (AW (mL_law, G) 438) := (r_ic_eq (tgt := 1142) dL_law_438 rfl qImp.rf (r_iconst dL_law_441 rfl (r_zreturn dL_law_442 rfl)))
def bL_law_443 (G : Nat × Nat × Nat × Option (Nat × (Nat → Int32)) × (Option Value → qW → Prop)) : qK := (s_aload 1 (s_aload 0 (s_iload 3 (s_iconst 1 (s_iadd (s_iaload (mL_law, G) (s_aload 0 (s_iload 3 (s_iconst 2 (s_iadd (s_iaload (mL_law, G) (s_aload 0 (s_iload 3 (s_iconst 3 (s_iadd (s_iaload (mL_law, G) (s_if_eq (AW (mL_law, G) 466) (s_iconst 1 (AW (mL_law, G) 467)))))))))))))))))))
theorem oL_law_443 (G : Nat × Nat × Nat × Option (Nat × (Nat → Int32)) × (Option Value → qW → Prop)) : qImp (bL_law_443 G) (AW (mL_law, G) 443) := (r_aload_n dL_law_443 rfl (r_aload_n dL_law_444 rfl (r_iload_n dL_law_445 rfl (r_iconst dL_law_446 rfl (r_iadd dL_law_447 (r_iaload dL_law_448 (r_aload_n dL_law_449 rfl (r_iload_n dL_law_450 rfl (r_iconst dL_law_451 rfl (r_iadd dL_law_452 (r_iaload dL_law_453 (r_aload_n dL_law_454 rfl (r_iload_n dL_law_455 rfl (r_iconst dL_law_456 rfl (r_iadd dL_law_457 (r_iaload dL_law_458 (r_if_eq (tgt := 466) dL_law_459 rfl qImp.rf (r_iconst dL_law_462 rfl (r_goto (tgt := 467) dL_law_463 rfl qImp.rf)))))))))))))))))))
def bL_law_466 (G : Nat × Nat × Nat × Option (Nat × (Nat → Int32)) × (Option Value → qW → Prop)) : qK := (s_iconst 0 (AW (mL_law, G) 467))
theorem oL_law_466 (G : Nat × Nat × Nat × Option (Nat × (Nat → Int32)) × (Option Value → qW → Prop)) : qImp (bL_law_466 G) (AW (mL_law, G) 466) := (r_iconst dL_law_466 rfl qImp.rf)
def bL_law_470 (G : Nat × Nat × Nat × Option (Nat × (Nat → Int32)) × (Option Value → qW → Prop)) : qK := (s_aload 2 (s_aload 0 (s_iload 3 (s_iconst 1 (s_iadd (s_iaload (mL_law, G) (s_aload 0 (s_iload 3 (s_iconst 2 (s_iadd (s_iaload (mL_law, G) (s_aload 0 (s_iload 3 (s_iconst 3 (s_iadd (s_iaload (mL_law, G) (s_if_eq (AW (mL_law, G) 493) (s_iconst 1 (AW (mL_law, G) 494)))))))))))))))))))
theorem oL_law_470 (G : Nat × Nat × Nat × Option (Nat × (Nat → Int32)) × (Option Value → qW → Prop)) : qImp (bL_law_470 G) (AW (mL_law, G) 470) := (r_aload_n dL_law_470 rfl (r_aload_n dL_law_471 rfl (r_iload_n dL_law_472 rfl (r_iconst dL_law_473 rfl (r_iadd dL_law_474 (r_iaload dL_law_475 (r_aload_n dL_law_476 rfl (r_iload_n dL_law_477 rfl (r_iconst dL_law_478 rfl (r_iadd dL_law_479 (r_iaload dL_law_480 (r_aload_n dL_law_481 rfl (r_iload_n dL_law_482 rfl (r_iconst dL_law_483 rfl (r_iadd dL_law_484 (r_iaload dL_law_485 (r_if_eq (tgt := 493) dL_law_486 rfl qImp.rf (r_iconst dL_law_489 rfl (r_goto (tgt := 494) dL_law_490 rfl qImp.rf)))))))))))))))))))
def bL_law_493 (G : Nat × Nat × Nat × Option (Nat × (Nat → Int32)) × (Option Value → qW → Prop)) : qK := (s_iconst 0 (AW (mL_law, G) 494))
theorem oL_law_493 (G : Nat × Nat × Nat × Option (Nat × (Nat → Int32)) × (Option Value → qW → Prop)) : qImp (bL_law_493 G) (AW (mL_law, G) 493) := (r_iconst dL_law_493 rfl qImp.rf)
def bL_law_497 (G : Nat × Nat × Nat × Option (Nat × (Nat → Int32)) × (Option Value → qW → Prop)) : qK := (s_ic_eq (AW (mL_law, G) 1142) (s_iconst 0 (s_zreturn (mL_law, G))))
theorem oL_law_497 (G : Nat × Nat × Nat × Option (Nat × (Nat → Int32)) × (Option Value → qW → Prop)) : qImp (bL_law_497 G) (AW (mL_law, G) 497) := (r_ic_eq (tgt := 1142) dL_law_497 rfl qImp.rf (r_iconst dL_law_500 rfl (r_zreturn dL_law_501 rfl)))
def bL_law_502 (G : Nat × Nat × Nat × Option (Nat × (Nat → Int32)) × (Option Value → qW → Prop)) : qK := (s_aload 1 (s_aload 0 (s_iload 3 (s_iconst 1 (s_iadd (s_iaload (mL_law, G) (AW (mL_law, G) 508)))))))
theorem oL_law_502 (G : Nat × Nat × Nat × Option (Nat × (Nat → Int32)) × (Option Value → qW → Prop)) : qImp (bL_law_502 G) (AW (mL_law, G) 502) := (r_aload_n dL_law_502 rfl (r_aload_n dL_law_503 rfl (r_iload_n dL_law_504 rfl (r_iconst dL_law_505 rfl (r_iadd dL_law_506 (r_iaload dL_law_507 qImp.rf))))))
def bL_law_511 (G : Nat × Nat × Nat × Option (Nat × (Nat → Int32)) × (Option Value → qW → Prop)) : qK := (s_aload 2 (s_aload 0 (s_iload 3 (s_iconst 1 (s_iadd (s_iaload (mL_law, G) (AW (mL_law, G) 517)))))))
theorem oL_law_511 (G : Nat × Nat × Nat × Option (Nat × (Nat → Int32)) × (Option Value → qW → Prop)) : qImp (bL_law_511 G) (AW (mL_law, G) 511) := (r_aload_n dL_law_511 rfl (r_aload_n dL_law_512 rfl (r_iload_n dL_law_513 rfl (r_iconst dL_law_514 rfl (r_iadd dL_law_515 (r_iaload dL_law_516 qImp.rf))))))
def bL_law_520 (G : Nat × Nat × Nat × Option (Nat × (Nat → Int32)) × (Option Value → qW → Prop)) : qK := (s_ic_eq (AW (mL_law, G) 1142) (s_iconst 0 (s_zreturn (mL_law, G))))
theorem oL_law_520 (G : Nat × Nat × Nat × Option (Nat × (Nat → Int32)) × (Option Value → qW → Prop)) : qImp (bL_law_520 G) (AW (mL_law, G) 520) := (r_ic_eq (tgt := 1142) dL_law_520 rfl qImp.rf (r_iconst dL_law_523 rfl (r_zreturn dL_law_524 rfl)))
def bL_law_525 (G : Nat × Nat × Nat × Option (Nat × (Nat → Int32)) × (Option Value → qW → Prop)) : qK := (s_aload 1 (s_aload 0 (s_iload 3 (s_iconst 1 (s_iadd (s_iaload (mL_law, G) (AW (mL_law, G) 531)))))))
theorem oL_law_525 (G : Nat × Nat × Nat × Option (Nat × (Nat → Int32)) × (Option Value → qW → Prop)) : qImp (bL_law_525 G) (AW (mL_law, G) 525) := (r_aload_n dL_law_525 rfl (r_aload_n dL_law_526 rfl (r_iload_n dL_law_527 rfl (r_iconst dL_law_528 rfl (r_iadd dL_law_529 (r_iaload dL_law_530 qImp.rf))))))
def bL_law_534 (G : Nat × Nat × Nat × Option (Nat × (Nat → Int32)) × (Option Value → qW → Prop)) : qK := (s_aload 2 (s_aload 0 (s_iload 3 (s_iconst 1 (s_iadd (s_iaload (mL_law, G) (AW (mL_law, G) 540)))))))
theorem oL_law_534 (G : Nat × Nat × Nat × Option (Nat × (Nat → Int32)) × (Option Value → qW → Prop)) : qImp (bL_law_534 G) (AW (mL_law, G) 534) := (r_aload_n dL_law_534 rfl (r_aload_n dL_law_535 rfl (r_iload_n dL_law_536 rfl (r_iconst dL_law_537 rfl (r_iadd dL_law_538 (r_iaload dL_law_539 qImp.rf))))))
def bL_law_543 (G : Nat × Nat × Nat × Option (Nat × (Nat → Int32)) × (Option Value → qW → Prop)) : qK := (s_ic_eq (AW (mL_law, G) 1142) (s_iconst 0 (s_zreturn (mL_law, G))))
theorem oL_law_543 (G : Nat × Nat × Nat × Option (Nat × (Nat → Int32)) × (Option Value → qW → Prop)) : qImp (bL_law_543 G) (AW (mL_law, G) 543) := (r_ic_eq (tgt := 1142) dL_law_543 rfl qImp.rf (r_iconst dL_law_546 rfl (r_zreturn dL_law_547 rfl)))
def bL_law_548 (G : Nat × Nat × Nat × Option (Nat × (Nat → Int32)) × (Option Value → qW → Prop)) : qK := (s_aload 1 (AW (mL_law, G) 549))
theorem oL_law_548 (G : Nat × Nat × Nat × Option (Nat × (Nat → Int32)) × (Option Value → qW → Prop)) : qImp (bL_law_548 G) (AW (mL_law, G) 548) := (r_aload_n dL_law_548 rfl qImp.rf)
def bL_law_552 (G : Nat × Nat × Nat × Option (Nat × (Nat → Int32)) × (Option Value → qW → Prop)) : qK := (s_aload 2 (AW (mL_law, G) 553))
theorem oL_law_552 (G : Nat × Nat × Nat × Option (Nat × (Nat → Int32)) × (Option Value → qW → Prop)) : qImp (bL_law_552 G) (AW (mL_law, G) 552) := (r_aload_n dL_law_552 rfl qImp.rf)
def bL_law_556 (G : Nat × Nat × Nat × Option (Nat × (Nat → Int32)) × (Option Value → qW → Prop)) : qK := (s_ic_eq (AW (mL_law, G) 1142) (s_iconst 0 (s_zreturn (mL_law, G))))
theorem oL_law_556 (G : Nat × Nat × Nat × Option (Nat × (Nat → Int32)) × (Option Value → qW → Prop)) : qImp (bL_law_556 G) (AW (mL_law, G) 556) := (r_ic_eq (tgt := 1142) dL_law_556 rfl qImp.rf (r_iconst dL_law_559 rfl (r_zreturn dL_law_560 rfl)))
def bL_law_561 (G : Nat × Nat × Nat × Option (Nat × (Nat → Int32)) × (Option Value → qW → Prop)) : qK := (s_aload 1 (AW (mL_law, G) 562))
theorem oL_law_561 (G : Nat × Nat × Nat × Option (Nat × (Nat → Int32)) × (Option Value → qW → Prop)) : qImp (bL_law_561 G) (AW (mL_law, G) 561) := (r_aload_n dL_law_561 rfl qImp.rf)
def bL_law_565 (G : Nat × Nat × Nat × Option (Nat × (Nat → Int32)) × (Option Value → qW → Prop)) : qK := (s_aload 2 (AW (mL_law, G) 566))
theorem oL_law_565 (G : Nat × Nat × Nat × Option (Nat × (Nat → Int32)) × (Option Value → qW → Prop)) : qImp (bL_law_565 G) (AW (mL_law, G) 565) := (r_aload_n dL_law_565 rfl qImp.rf)
def bL_law_569 (G : Nat × Nat × Nat × Option (Nat × (Nat → Int32)) × (Option Value → qW → Prop)) : qK := (s_ic_eq (AW (mL_law, G) 1142) (s_iconst 0 (s_zreturn (mL_law, G))))
theorem oL_law_569 (G : Nat × Nat × Nat × Option (Nat × (Nat → Int32)) × (Option Value → qW → Prop)) : qImp (bL_law_569 G) (AW (mL_law, G) 569) := (r_ic_eq (tgt := 1142) dL_law_569 rfl qImp.rf (r_iconst dL_law_572 rfl (r_zreturn dL_law_573 rfl)))
def bL_law_574 (G : Nat × Nat × Nat × Option (Nat × (Nat → Int32)) × (Option Value → qW → Prop)) : qK := (s_aload 1 (s_aload 0 (s_iload 3 (s_iconst 1 (s_iadd (s_iaload (mL_law, G) (AW (mL_law, G) 580)))))))
theorem oL_law_574 (G : Nat × Nat × Nat × Option (Nat × (Nat → Int32)) × (Option Value → qW → Prop)) : qImp (bL_law_574 G) (AW (mL_law, G) 574) := (r_aload_n dL_law_574 rfl (r_aload_n dL_law_575 rfl (r_iload_n dL_law_576 rfl (r_iconst dL_law_577 rfl (r_iadd dL_law_578 (r_iaload dL_law_579 qImp.rf))))))
def bL_law_583 (G : Nat × Nat × Nat × Option (Nat × (Nat → Int32)) × (Option Value → qW → Prop)) : qK := (s_aload 2 (s_aload 0 (s_iload 3 (s_iconst 1 (s_iadd (s_iaload (mL_law, G) (AW (mL_law, G) 589)))))))
theorem oL_law_583 (G : Nat × Nat × Nat × Option (Nat × (Nat → Int32)) × (Option Value → qW → Prop)) : qImp (bL_law_583 G) (AW (mL_law, G) 583) := (r_aload_n dL_law_583 rfl (r_aload_n dL_law_584 rfl (r_iload_n dL_law_585 rfl (r_iconst dL_law_586 rfl (r_iadd dL_law_587 (r_iaload dL_law_588 qImp.rf))))))
def bL_law_592 (G : Nat × Nat × Nat × Option (Nat × (Nat → Int32)) × (Option Value → qW → Prop)) : qK := (s_ic_eq (AW (mL_law, G) 1142) (s_iconst 0 (s_zreturn (mL_law, G))))
theorem oL_law_592 (G : Nat × Nat × Nat × Option (Nat × (Nat → Int32)) × (Option Value → qW → Prop)) : qImp (bL_law_592 G) (AW (mL_law, G) 592) := (r_ic_eq (tgt := 1142) dL_law_592 rfl qImp.rf (r_iconst dL_law_595 rfl (r_zreturn dL_law_596 rfl)))
def bL_law_597 (G : Nat × Nat × Nat × Option (Nat × (Nat → Int32)) × (Option Value → qW → Prop)) : qK := (s_aload 1 (AW (mL_law, G) 598))
theorem oL_law_597 (G : Nat × Nat × Nat × Option (Nat × (Nat → Int32)) × (Option Value → qW → Prop)) : qImp (bL_law_597 G) (AW (mL_law, G) 597) := (r_aload_n dL_law_597 rfl qImp.rf)
def bL_law_601 (G : Nat × Nat × Nat × Option (Nat × (Nat → Int32)) × (Option Value → qW → Prop)) : qK := (s_aload 2 (AW (mL_law, G) 602))
theorem oL_law_601 (G : Nat × Nat × Nat × Option (Nat × (Nat → Int32)) × (Option Value → qW → Prop)) : qImp (bL_law_601 G) (AW (mL_law, G) 601) := (r_aload_n dL_law_601 rfl qImp.rf)
def bL_law_605 (G : Nat × Nat × Nat × Option (Nat × (Nat → Int32)) × (Option Value → qW → Prop)) : qK := (s_ic_eq (AW (mL_law, G) 1142) (s_iconst 0 (s_zreturn (mL_law, G))))
theorem oL_law_605 (G : Nat × Nat × Nat × Option (Nat × (Nat → Int32)) × (Option Value → qW → Prop)) : qImp (bL_law_605 G) (AW (mL_law, G) 605) := (r_ic_eq (tgt := 1142) dL_law_605 rfl qImp.rf (r_iconst dL_law_608 rfl (r_zreturn dL_law_609 rfl)))
def bL_law_610 (G : Nat × Nat × Nat × Option (Nat × (Nat → Int32)) × (Option Value → qW → Prop)) : qK := (s_aload 1 (s_aload 0 (s_iload 3 (s_iconst 1 (s_iadd (s_iaload (mL_law, G) (s_aload 0 (s_iload 3 (s_iconst 2 (s_iadd (s_iaload (mL_law, G) (s_aload 0 (s_iload 3 (s_iconst 3 (s_iadd (s_iaload (mL_law, G) (AW (mL_law, G) 626)))))))))))))))))
theorem oL_law_610 (G : Nat × Nat × Nat × Option (Nat × (Nat → Int32)) × (Option Value → qW → Prop)) : qImp (bL_law_610 G) (AW (mL_law, G) 610) := (r_aload_n dL_law_610 rfl (r_aload_n dL_law_611 rfl (r_iload_n dL_law_612 rfl (r_iconst dL_law_613 rfl (r_iadd dL_law_614 (r_iaload dL_law_615 (r_aload_n dL_law_616 rfl (r_iload_n dL_law_617 rfl (r_iconst dL_law_618 rfl (r_iadd dL_law_619 (r_iaload dL_law_620 (r_aload_n dL_law_621 rfl (r_iload_n dL_law_622 rfl (r_iconst dL_law_623 rfl (r_iadd dL_law_624 (r_iaload dL_law_625 qImp.rf))))))))))))))))
def bL_law_629 (G : Nat × Nat × Nat × Option (Nat × (Nat → Int32)) × (Option Value → qW → Prop)) : qK := (s_aload 2 (s_aload 0 (s_iload 3 (s_iconst 1 (s_iadd (s_iaload (mL_law, G) (s_aload 0 (s_iload 3 (s_iconst 2 (s_iadd (s_iaload (mL_law, G) (s_aload 0 (s_iload 3 (s_iconst 3 (s_iadd (s_iaload (mL_law, G) (AW (mL_law, G) 645)))))))))))))))))
theorem oL_law_629 (G : Nat × Nat × Nat × Option (Nat × (Nat → Int32)) × (Option Value → qW → Prop)) : qImp (bL_law_629 G) (AW (mL_law, G) 629) := (r_aload_n dL_law_629 rfl (r_aload_n dL_law_630 rfl (r_iload_n dL_law_631 rfl (r_iconst dL_law_632 rfl (r_iadd dL_law_633 (r_iaload dL_law_634 (r_aload_n dL_law_635 rfl (r_iload_n dL_law_636 rfl (r_iconst dL_law_637 rfl (r_iadd dL_law_638 (r_iaload dL_law_639 (r_aload_n dL_law_640 rfl (r_iload_n dL_law_641 rfl (r_iconst dL_law_642 rfl (r_iadd dL_law_643 (r_iaload dL_law_644 qImp.rf))))))))))))))))
def bL_law_648 (G : Nat × Nat × Nat × Option (Nat × (Nat → Int32)) × (Option Value → qW → Prop)) : qK := (s_ic_eq (AW (mL_law, G) 1142) (s_iconst 0 (s_zreturn (mL_law, G))))
theorem oL_law_648 (G : Nat × Nat × Nat × Option (Nat × (Nat → Int32)) × (Option Value → qW → Prop)) : qImp (bL_law_648 G) (AW (mL_law, G) 648) := (r_ic_eq (tgt := 1142) dL_law_648 rfl qImp.rf (r_iconst dL_law_651 rfl (r_zreturn dL_law_652 rfl)))
def bL_law_653 (G : Nat × Nat × Nat × Option (Nat × (Nat → Int32)) × (Option Value → qW → Prop)) : qK := (s_aload 1 (s_aload 0 (s_iload 3 (s_iconst 1 (s_iadd (s_iaload (mL_law, G) (s_aload 0 (s_iload 3 (s_iconst 2 (s_iadd (s_iaload (mL_law, G) (s_aload 0 (s_iload 3 (s_iconst 3 (s_iadd (s_iaload (mL_law, G) (AW (mL_law, G) 669)))))))))))))))))
theorem oL_law_653 (G : Nat × Nat × Nat × Option (Nat × (Nat → Int32)) × (Option Value → qW → Prop)) : qImp (bL_law_653 G) (AW (mL_law, G) 653) := (r_aload_n dL_law_653 rfl (r_aload_n dL_law_654 rfl (r_iload_n dL_law_655 rfl (r_iconst dL_law_656 rfl (r_iadd dL_law_657 (r_iaload dL_law_658 (r_aload_n dL_law_659 rfl (r_iload_n dL_law_660 rfl (r_iconst dL_law_661 rfl (r_iadd dL_law_662 (r_iaload dL_law_663 (r_aload_n dL_law_664 rfl (r_iload_n dL_law_665 rfl (r_iconst dL_law_666 rfl (r_iadd dL_law_667 (r_iaload dL_law_668 qImp.rf))))))))))))))))
def bL_law_672 (G : Nat × Nat × Nat × Option (Nat × (Nat → Int32)) × (Option Value → qW → Prop)) : qK := (s_aload 2 (s_aload 0 (s_iload 3 (s_iconst 1 (s_iadd (s_iaload (mL_law, G) (s_aload 0 (s_iload 3 (s_iconst 2 (s_iadd (s_iaload (mL_law, G) (s_aload 0 (s_iload 3 (s_iconst 3 (s_iadd (s_iaload (mL_law, G) (AW (mL_law, G) 688)))))))))))))))))
theorem oL_law_672 (G : Nat × Nat × Nat × Option (Nat × (Nat → Int32)) × (Option Value → qW → Prop)) : qImp (bL_law_672 G) (AW (mL_law, G) 672) := (r_aload_n dL_law_672 rfl (r_aload_n dL_law_673 rfl (r_iload_n dL_law_674 rfl (r_iconst dL_law_675 rfl (r_iadd dL_law_676 (r_iaload dL_law_677 (r_aload_n dL_law_678 rfl (r_iload_n dL_law_679 rfl (r_iconst dL_law_680 rfl (r_iadd dL_law_681 (r_iaload dL_law_682 (r_aload_n dL_law_683 rfl (r_iload_n dL_law_684 rfl (r_iconst dL_law_685 rfl (r_iadd dL_law_686 (r_iaload dL_law_687 qImp.rf))))))))))))))))
def bL_law_691 (G : Nat × Nat × Nat × Option (Nat × (Nat → Int32)) × (Option Value → qW → Prop)) : qK := (s_ic_eq (AW (mL_law, G) 1142) (s_iconst 0 (s_zreturn (mL_law, G))))
theorem oL_law_691 (G : Nat × Nat × Nat × Option (Nat × (Nat → Int32)) × (Option Value → qW → Prop)) : qImp (bL_law_691 G) (AW (mL_law, G) 691) := (r_ic_eq (tgt := 1142) dL_law_691 rfl qImp.rf (r_iconst dL_law_694 rfl (r_zreturn dL_law_695 rfl)))
def bL_law_696 (G : Nat × Nat × Nat × Option (Nat × (Nat → Int32)) × (Option Value → qW → Prop)) : qK := (s_aload 1 (s_aload 0 (s_iload 3 (s_iconst 1 (s_iadd (s_iaload (mL_law, G) (s_aload 0 (s_iload 3 (s_iconst 2 (s_iadd (s_iaload (mL_law, G) (AW (mL_law, G) 707))))))))))))
theorem oL_law_696 (G : Nat × Nat × Nat × Option (Nat × (Nat → Int32)) × (Option Value → qW → Prop)) : qImp (bL_law_696 G) (AW (mL_law, G) 696) := (r_aload_n dL_law_696 rfl (r_aload_n dL_law_697 rfl (r_iload_n dL_law_698 rfl (r_iconst dL_law_699 rfl (r_iadd dL_law_700 (r_iaload dL_law_701 (r_aload_n dL_law_702 rfl (r_iload_n dL_law_703 rfl (r_iconst dL_law_704 rfl (r_iadd dL_law_705 (r_iaload dL_law_706 qImp.rf)))))))))))
def bL_law_710 (G : Nat × Nat × Nat × Option (Nat × (Nat → Int32)) × (Option Value → qW → Prop)) : qK := (s_aload 2 (s_aload 0 (s_iload 3 (s_iconst 1 (s_iadd (s_iaload (mL_law, G) (s_aload 0 (s_iload 3 (s_iconst 2 (s_iadd (s_iaload (mL_law, G) (AW (mL_law, G) 721))))))))))))
theorem oL_law_710 (G : Nat × Nat × Nat × Option (Nat × (Nat → Int32)) × (Option Value → qW → Prop)) : qImp (bL_law_710 G) (AW (mL_law, G) 710) := (r_aload_n dL_law_710 rfl (r_aload_n dL_law_711 rfl (r_iload_n dL_law_712 rfl (r_iconst dL_law_713 rfl (r_iadd dL_law_714 (r_iaload dL_law_715 (r_aload_n dL_law_716 rfl (r_iload_n dL_law_717 rfl (r_iconst dL_law_718 rfl (r_iadd dL_law_719 (r_iaload dL_law_720 qImp.rf)))))))))))
def bL_law_724 (G : Nat × Nat × Nat × Option (Nat × (Nat → Int32)) × (Option Value → qW → Prop)) : qK := (s_ic_eq (AW (mL_law, G) 1142) (s_iconst 0 (s_zreturn (mL_law, G))))
theorem oL_law_724 (G : Nat × Nat × Nat × Option (Nat × (Nat → Int32)) × (Option Value → qW → Prop)) : qImp (bL_law_724 G) (AW (mL_law, G) 724) := (r_ic_eq (tgt := 1142) dL_law_724 rfl qImp.rf (r_iconst dL_law_727 rfl (r_zreturn dL_law_728 rfl)))
def bL_law_729 (G : Nat × Nat × Nat × Option (Nat × (Nat → Int32)) × (Option Value → qW → Prop)) : qK := (s_aload 1 (s_aload 0 (s_iload 3 (s_iconst 1 (s_iadd (s_iaload (mL_law, G) (AW (mL_law, G) 735)))))))
theorem oL_law_729 (G : Nat × Nat × Nat × Option (Nat × (Nat → Int32)) × (Option Value → qW → Prop)) : qImp (bL_law_729 G) (AW (mL_law, G) 729) := (r_aload_n dL_law_729 rfl (r_aload_n dL_law_730 rfl (r_iload_n dL_law_731 rfl (r_iconst dL_law_732 rfl (r_iadd dL_law_733 (r_iaload dL_law_734 qImp.rf))))))
def bL_law_738 (G : Nat × Nat × Nat × Option (Nat × (Nat → Int32)) × (Option Value → qW → Prop)) : qK := (s_aload 2 (s_aload 0 (s_iload 3 (s_iconst 1 (s_iadd (s_iaload (mL_law, G) (AW (mL_law, G) 744)))))))
theorem oL_law_738 (G : Nat × Nat × Nat × Option (Nat × (Nat → Int32)) × (Option Value → qW → Prop)) : qImp (bL_law_738 G) (AW (mL_law, G) 738) := (r_aload_n dL_law_738 rfl (r_aload_n dL_law_739 rfl (r_iload_n dL_law_740 rfl (r_iconst dL_law_741 rfl (r_iadd dL_law_742 (r_iaload dL_law_743 qImp.rf))))))
def bL_law_747 (G : Nat × Nat × Nat × Option (Nat × (Nat → Int32)) × (Option Value → qW → Prop)) : qK := (s_ic_eq (AW (mL_law, G) 1142) (s_iconst 0 (s_zreturn (mL_law, G))))
theorem oL_law_747 (G : Nat × Nat × Nat × Option (Nat × (Nat → Int32)) × (Option Value → qW → Prop)) : qImp (bL_law_747 G) (AW (mL_law, G) 747) := (r_ic_eq (tgt := 1142) dL_law_747 rfl qImp.rf (r_iconst dL_law_750 rfl (r_zreturn dL_law_751 rfl)))
def bL_law_752 (G : Nat × Nat × Nat × Option (Nat × (Nat → Int32)) × (Option Value → qW → Prop)) : qK := (s_aload 1 (s_aload 0 (s_iload 3 (s_iconst 1 (s_iadd (s_iaload (mL_law, G) (s_aload 0 (s_iload 3 (s_iconst 2 (s_iadd (s_iaload (mL_law, G) (AW (mL_law, G) 763))))))))))))
theorem oL_law_752 (G : Nat × Nat × Nat × Option (Nat × (Nat → Int32)) × (Option Value → qW → Prop)) : qImp (bL_law_752 G) (AW (mL_law, G) 752) := (r_aload_n dL_law_752 rfl (r_aload_n dL_law_753 rfl (r_iload_n dL_law_754 rfl (r_iconst dL_law_755 rfl (r_iadd dL_law_756 (r_iaload dL_law_757 (r_aload_n dL_law_758 rfl (r_iload_n dL_law_759 rfl (r_iconst dL_law_760 rfl (r_iadd dL_law_761 (r_iaload dL_law_762 qImp.rf)))))))))))
def bL_law_766 (G : Nat × Nat × Nat × Option (Nat × (Nat → Int32)) × (Option Value → qW → Prop)) : qK := (s_aload 2 (s_aload 0 (s_iload 3 (s_iconst 1 (s_iadd (s_iaload (mL_law, G) (s_aload 0 (s_iload 3 (s_iconst 2 (s_iadd (s_iaload (mL_law, G) (AW (mL_law, G) 777))))))))))))
theorem oL_law_766 (G : Nat × Nat × Nat × Option (Nat × (Nat → Int32)) × (Option Value → qW → Prop)) : qImp (bL_law_766 G) (AW (mL_law, G) 766) := (r_aload_n dL_law_766 rfl (r_aload_n dL_law_767 rfl (r_iload_n dL_law_768 rfl (r_iconst dL_law_769 rfl (r_iadd dL_law_770 (r_iaload dL_law_771 (r_aload_n dL_law_772 rfl (r_iload_n dL_law_773 rfl (r_iconst dL_law_774 rfl (r_iadd dL_law_775 (r_iaload dL_law_776 qImp.rf)))))))))))
def bL_law_780 (G : Nat × Nat × Nat × Option (Nat × (Nat → Int32)) × (Option Value → qW → Prop)) : qK := (s_ic_eq (AW (mL_law, G) 1142) (s_iconst 0 (s_zreturn (mL_law, G))))
theorem oL_law_780 (G : Nat × Nat × Nat × Option (Nat × (Nat → Int32)) × (Option Value → qW → Prop)) : qImp (bL_law_780 G) (AW (mL_law, G) 780) := (r_ic_eq (tgt := 1142) dL_law_780 rfl qImp.rf (r_iconst dL_law_783 rfl (r_zreturn dL_law_784 rfl)))
def bL_law_785 (G : Nat × Nat × Nat × Option (Nat × (Nat → Int32)) × (Option Value → qW → Prop)) : qK := (s_aload 1 (s_aload 0 (s_iload 3 (s_iconst 1 (s_iadd (s_iaload (mL_law, G) (s_aload 0 (s_iload 3 (s_iconst 2 (s_iadd (s_iaload (mL_law, G) (s_aload 0 (s_iload 3 (s_iconst 3 (s_iadd (s_iaload (mL_law, G) (AW (mL_law, G) 801)))))))))))))))))
theorem oL_law_785 (G : Nat × Nat × Nat × Option (Nat × (Nat → Int32)) × (Option Value → qW → Prop)) : qImp (bL_law_785 G) (AW (mL_law, G) 785) := (r_aload_n dL_law_785 rfl (r_aload_n dL_law_786 rfl (r_iload_n dL_law_787 rfl (r_iconst dL_law_788 rfl (r_iadd dL_law_789 (r_iaload dL_law_790 (r_aload_n dL_law_791 rfl (r_iload_n dL_law_792 rfl (r_iconst dL_law_793 rfl (r_iadd dL_law_794 (r_iaload dL_law_795 (r_aload_n dL_law_796 rfl (r_iload_n dL_law_797 rfl (r_iconst dL_law_798 rfl (r_iadd dL_law_799 (r_iaload dL_law_800 qImp.rf))))))))))))))))
def bL_law_804 (G : Nat × Nat × Nat × Option (Nat × (Nat → Int32)) × (Option Value → qW → Prop)) : qK := (s_aload 2 (s_aload 0 (s_iload 3 (s_iconst 1 (s_iadd (s_iaload (mL_law, G) (s_aload 0 (s_iload 3 (s_iconst 2 (s_iadd (s_iaload (mL_law, G) (s_aload 0 (s_iload 3 (s_iconst 3 (s_iadd (s_iaload (mL_law, G) (AW (mL_law, G) 820)))))))))))))))))
theorem oL_law_804 (G : Nat × Nat × Nat × Option (Nat × (Nat → Int32)) × (Option Value → qW → Prop)) : qImp (bL_law_804 G) (AW (mL_law, G) 804) := (r_aload_n dL_law_804 rfl (r_aload_n dL_law_805 rfl (r_iload_n dL_law_806 rfl (r_iconst dL_law_807 rfl (r_iadd dL_law_808 (r_iaload dL_law_809 (r_aload_n dL_law_810 rfl (r_iload_n dL_law_811 rfl (r_iconst dL_law_812 rfl (r_iadd dL_law_813 (r_iaload dL_law_814 (r_aload_n dL_law_815 rfl (r_iload_n dL_law_816 rfl (r_iconst dL_law_817 rfl (r_iadd dL_law_818 (r_iaload dL_law_819 qImp.rf))))))))))))))))
def bL_law_823 (G : Nat × Nat × Nat × Option (Nat × (Nat → Int32)) × (Option Value → qW → Prop)) : qK := (s_ic_eq (AW (mL_law, G) 1142) (s_iconst 0 (s_zreturn (mL_law, G))))
theorem oL_law_823 (G : Nat × Nat × Nat × Option (Nat × (Nat → Int32)) × (Option Value → qW → Prop)) : qImp (bL_law_823 G) (AW (mL_law, G) 823) := (r_ic_eq (tgt := 1142) dL_law_823 rfl qImp.rf (r_iconst dL_law_826 rfl (r_zreturn dL_law_827 rfl)))
def bL_law_828 (G : Nat × Nat × Nat × Option (Nat × (Nat → Int32)) × (Option Value → qW → Prop)) : qK := (s_aload 1 (s_aload 0 (s_iload 3 (s_iconst 1 (s_iadd (s_iaload (mL_law, G) (s_aload 0 (s_iload 3 (s_iconst 2 (s_iadd (s_iaload (mL_law, G) (AW (mL_law, G) 839))))))))))))
theorem oL_law_828 (G : Nat × Nat × Nat × Option (Nat × (Nat → Int32)) × (Option Value → qW → Prop)) : qImp (bL_law_828 G) (AW (mL_law, G) 828) := (r_aload_n dL_law_828 rfl (r_aload_n dL_law_829 rfl (r_iload_n dL_law_830 rfl (r_iconst dL_law_831 rfl (r_iadd dL_law_832 (r_iaload dL_law_833 (r_aload_n dL_law_834 rfl (r_iload_n dL_law_835 rfl (r_iconst dL_law_836 rfl (r_iadd dL_law_837 (r_iaload dL_law_838 qImp.rf)))))))))))
def bL_law_842 (G : Nat × Nat × Nat × Option (Nat × (Nat → Int32)) × (Option Value → qW → Prop)) : qK := (s_aload 2 (s_aload 0 (s_iload 3 (s_iconst 1 (s_iadd (s_iaload (mL_law, G) (s_aload 0 (s_iload 3 (s_iconst 2 (s_iadd (s_iaload (mL_law, G) (AW (mL_law, G) 853))))))))))))
theorem oL_law_842 (G : Nat × Nat × Nat × Option (Nat × (Nat → Int32)) × (Option Value → qW → Prop)) : qImp (bL_law_842 G) (AW (mL_law, G) 842) := (r_aload_n dL_law_842 rfl (r_aload_n dL_law_843 rfl (r_iload_n dL_law_844 rfl (r_iconst dL_law_845 rfl (r_iadd dL_law_846 (r_iaload dL_law_847 (r_aload_n dL_law_848 rfl (r_iload_n dL_law_849 rfl (r_iconst dL_law_850 rfl (r_iadd dL_law_851 (r_iaload dL_law_852 qImp.rf)))))))))))
def bL_law_856 (G : Nat × Nat × Nat × Option (Nat × (Nat → Int32)) × (Option Value → qW → Prop)) : qK := (s_ic_eq (AW (mL_law, G) 1142) (s_iconst 0 (s_zreturn (mL_law, G))))
theorem oL_law_856 (G : Nat × Nat × Nat × Option (Nat × (Nat → Int32)) × (Option Value → qW → Prop)) : qImp (bL_law_856 G) (AW (mL_law, G) 856) := (r_ic_eq (tgt := 1142) dL_law_856 rfl qImp.rf (r_iconst dL_law_859 rfl (r_zreturn dL_law_860 rfl)))
def bL_law_861 (G : Nat × Nat × Nat × Option (Nat × (Nat → Int32)) × (Option Value → qW → Prop)) : qK := (s_aload 1 (s_aload 0 (s_iload 3 (s_iconst 1 (s_iadd (s_iaload (mL_law, G) (AW (mL_law, G) 867)))))))
theorem oL_law_861 (G : Nat × Nat × Nat × Option (Nat × (Nat → Int32)) × (Option Value → qW → Prop)) : qImp (bL_law_861 G) (AW (mL_law, G) 861) := (r_aload_n dL_law_861 rfl (r_aload_n dL_law_862 rfl (r_iload_n dL_law_863 rfl (r_iconst dL_law_864 rfl (r_iadd dL_law_865 (r_iaload dL_law_866 qImp.rf))))))
def bL_law_870 (G : Nat × Nat × Nat × Option (Nat × (Nat → Int32)) × (Option Value → qW → Prop)) : qK := (s_aload 2 (s_aload 0 (s_iload 3 (s_iconst 1 (s_iadd (s_iaload (mL_law, G) (AW (mL_law, G) 876)))))))
theorem oL_law_870 (G : Nat × Nat × Nat × Option (Nat × (Nat → Int32)) × (Option Value → qW → Prop)) : qImp (bL_law_870 G) (AW (mL_law, G) 870) := (r_aload_n dL_law_870 rfl (r_aload_n dL_law_871 rfl (r_iload_n dL_law_872 rfl (r_iconst dL_law_873 rfl (r_iadd dL_law_874 (r_iaload dL_law_875 qImp.rf))))))
def bL_law_879 (G : Nat × Nat × Nat × Option (Nat × (Nat → Int32)) × (Option Value → qW → Prop)) : qK := (s_lcmp (s_if_eq (AW (mL_law, G) 1142) (s_iconst 0 (s_zreturn (mL_law, G)))))
theorem oL_law_879 (G : Nat × Nat × Nat × Option (Nat × (Nat → Int32)) × (Option Value → qW → Prop)) : qImp (bL_law_879 G) (AW (mL_law, G) 879) := (r_lcmp dL_law_879 (r_if_eq (tgt := 1142) dL_law_880 rfl qImp.rf (r_iconst dL_law_883 rfl (r_zreturn dL_law_884 rfl))))
def bL_law_885 (G : Nat × Nat × Nat × Option (Nat × (Nat → Int32)) × (Option Value → qW → Prop)) : qK := (s_aload 1 (s_aload 0 (s_iload 3 (s_iconst 1 (s_iadd (s_iaload (mL_law, G) (s_i2l (s_iconst 32 (s_lshl (s_aload 0 (s_iload 3 (s_iconst 2 (s_iadd (s_iaload (mL_law, G) (s_i2l (s_lconst 4294967295 (s_land (s_lor (AW (mL_law, G) 906)))))))))))))))))))
theorem oL_law_885 (G : Nat × Nat × Nat × Option (Nat × (Nat → Int32)) × (Option Value → qW → Prop)) : qImp (bL_law_885 G) (AW (mL_law, G) 885) := (r_aload_n dL_law_885 rfl (r_aload_n dL_law_886 rfl (r_iload_n dL_law_887 rfl (r_iconst dL_law_888 rfl (r_iadd dL_law_889 (r_iaload dL_law_890 (r_i2l dL_law_891 (r_bipush dL_law_892 rfl (r_lshl dL_law_894 (r_aload_n dL_law_895 rfl (r_iload_n dL_law_896 rfl (r_iconst dL_law_897 rfl (r_iadd dL_law_898 (r_iaload dL_law_899 (r_i2l dL_law_900 (r_ldc2 dL_law_901 lk1268 (r_land dL_law_904 (r_lor dL_law_905 qImp.rf))))))))))))))))))
def bL_law_909 (G : Nat × Nat × Nat × Option (Nat × (Nat → Int32)) × (Option Value → qW → Prop)) : qK := (s_aload 2 (s_aload 0 (s_iload 3 (s_iconst 1 (s_iadd (s_iaload (mL_law, G) (s_i2l (s_iconst 32 (s_lshl (s_aload 0 (s_iload 3 (s_iconst 2 (s_iadd (s_iaload (mL_law, G) (s_i2l (s_lconst 4294967295 (s_land (s_lor (AW (mL_law, G) 930)))))))))))))))))))
theorem oL_law_909 (G : Nat × Nat × Nat × Option (Nat × (Nat → Int32)) × (Option Value → qW → Prop)) : qImp (bL_law_909 G) (AW (mL_law, G) 909) := (r_aload_n dL_law_909 rfl (r_aload_n dL_law_910 rfl (r_iload_n dL_law_911 rfl (r_iconst dL_law_912 rfl (r_iadd dL_law_913 (r_iaload dL_law_914 (r_i2l dL_law_915 (r_bipush dL_law_916 rfl (r_lshl dL_law_918 (r_aload_n dL_law_919 rfl (r_iload_n dL_law_920 rfl (r_iconst dL_law_921 rfl (r_iadd dL_law_922 (r_iaload dL_law_923 (r_i2l dL_law_924 (r_ldc2 dL_law_925 lk1268 (r_land dL_law_928 (r_lor dL_law_929 qImp.rf))))))))))))))))))
def bL_law_933 (G : Nat × Nat × Nat × Option (Nat × (Nat → Int32)) × (Option Value → qW → Prop)) : qK := (s_ic_eq (AW (mL_law, G) 1142) (s_iconst 0 (s_zreturn (mL_law, G))))
theorem oL_law_933 (G : Nat × Nat × Nat × Option (Nat × (Nat → Int32)) × (Option Value → qW → Prop)) : qImp (bL_law_933 G) (AW (mL_law, G) 933) := (r_ic_eq (tgt := 1142) dL_law_933 rfl qImp.rf (r_iconst dL_law_936 rfl (r_zreturn dL_law_937 rfl)))
def bL_law_938 (G : Nat × Nat × Nat × Option (Nat × (Nat → Int32)) × (Option Value → qW → Prop)) : qK := (s_aload 1 (s_aload 0 (s_iload 3 (s_iconst 1 (s_iadd (s_iaload (mL_law, G) (s_aload 0 (s_iload 3 (s_iconst 2 (s_iadd (s_iaload (mL_law, G) (AW (mL_law, G) 949))))))))))))
theorem oL_law_938 (G : Nat × Nat × Nat × Option (Nat × (Nat → Int32)) × (Option Value → qW → Prop)) : qImp (bL_law_938 G) (AW (mL_law, G) 938) := (r_aload_n dL_law_938 rfl (r_aload_n dL_law_939 rfl (r_iload_n dL_law_940 rfl (r_iconst dL_law_941 rfl (r_iadd dL_law_942 (r_iaload dL_law_943 (r_aload_n dL_law_944 rfl (r_iload_n dL_law_945 rfl (r_iconst dL_law_946 rfl (r_iadd dL_law_947 (r_iaload dL_law_948 qImp.rf)))))))))))
def bL_law_952 (G : Nat × Nat × Nat × Option (Nat × (Nat → Int32)) × (Option Value → qW → Prop)) : qK := (s_aload 2 (s_aload 0 (s_iload 3 (s_iconst 1 (s_iadd (s_iaload (mL_law, G) (s_aload 0 (s_iload 3 (s_iconst 2 (s_iadd (s_iaload (mL_law, G) (AW (mL_law, G) 963))))))))))))
theorem oL_law_952 (G : Nat × Nat × Nat × Option (Nat × (Nat → Int32)) × (Option Value → qW → Prop)) : qImp (bL_law_952 G) (AW (mL_law, G) 952) := (r_aload_n dL_law_952 rfl (r_aload_n dL_law_953 rfl (r_iload_n dL_law_954 rfl (r_iconst dL_law_955 rfl (r_iadd dL_law_956 (r_iaload dL_law_957 (r_aload_n dL_law_958 rfl (r_iload_n dL_law_959 rfl (r_iconst dL_law_960 rfl (r_iadd dL_law_961 (r_iaload dL_law_962 qImp.rf)))))))))))
def bL_law_966 (G : Nat × Nat × Nat × Option (Nat × (Nat → Int32)) × (Option Value → qW → Prop)) : qK := (s_ic_eq (AW (mL_law, G) 1142) (s_iconst 0 (s_zreturn (mL_law, G))))
theorem oL_law_966 (G : Nat × Nat × Nat × Option (Nat × (Nat → Int32)) × (Option Value → qW → Prop)) : qImp (bL_law_966 G) (AW (mL_law, G) 966) := (r_ic_eq (tgt := 1142) dL_law_966 rfl qImp.rf (r_iconst dL_law_969 rfl (r_zreturn dL_law_970 rfl)))
def bL_law_971 (G : Nat × Nat × Nat × Option (Nat × (Nat → Int32)) × (Option Value → qW → Prop)) : qK := (s_aload 1 (s_aload 0 (s_iload 3 (s_iconst 1 (s_iadd (s_iaload (mL_law, G) (s_aload 0 (s_iload 3 (s_iconst 2 (s_iadd (s_iaload (mL_law, G) (AW (mL_law, G) 982))))))))))))
theorem oL_law_971 (G : Nat × Nat × Nat × Option (Nat × (Nat → Int32)) × (Option Value → qW → Prop)) : qImp (bL_law_971 G) (AW (mL_law, G) 971) := (r_aload_n dL_law_971 rfl (r_aload_n dL_law_972 rfl (r_iload_n dL_law_973 rfl (r_iconst dL_law_974 rfl (r_iadd dL_law_975 (r_iaload dL_law_976 (r_aload_n dL_law_977 rfl (r_iload_n dL_law_978 rfl (r_iconst dL_law_979 rfl (r_iadd dL_law_980 (r_iaload dL_law_981 qImp.rf)))))))))))
def bL_law_985 (G : Nat × Nat × Nat × Option (Nat × (Nat → Int32)) × (Option Value → qW → Prop)) : qK := (s_aload 2 (s_aload 0 (s_iload 3 (s_iconst 1 (s_iadd (s_iaload (mL_law, G) (s_aload 0 (s_iload 3 (s_iconst 2 (s_iadd (s_iaload (mL_law, G) (AW (mL_law, G) 996))))))))))))
theorem oL_law_985 (G : Nat × Nat × Nat × Option (Nat × (Nat → Int32)) × (Option Value → qW → Prop)) : qImp (bL_law_985 G) (AW (mL_law, G) 985) := (r_aload_n dL_law_985 rfl (r_aload_n dL_law_986 rfl (r_iload_n dL_law_987 rfl (r_iconst dL_law_988 rfl (r_iadd dL_law_989 (r_iaload dL_law_990 (r_aload_n dL_law_991 rfl (r_iload_n dL_law_992 rfl (r_iconst dL_law_993 rfl (r_iadd dL_law_994 (r_iaload dL_law_995 qImp.rf)))))))))))
def bL_law_999 (G : Nat × Nat × Nat × Option (Nat × (Nat → Int32)) × (Option Value → qW → Prop)) : qK := (s_ic_eq (AW (mL_law, G) 1142) (s_iconst 0 (s_zreturn (mL_law, G))))
theorem oL_law_999 (G : Nat × Nat × Nat × Option (Nat × (Nat → Int32)) × (Option Value → qW → Prop)) : qImp (bL_law_999 G) (AW (mL_law, G) 999) := (r_ic_eq (tgt := 1142) dL_law_999 rfl qImp.rf (r_iconst dL_law_1002 rfl (r_zreturn dL_law_1003 rfl)))
def bL_law_1004 (G : Nat × Nat × Nat × Option (Nat × (Nat → Int32)) × (Option Value → qW → Prop)) : qK := (s_aload 1 (AW (mL_law, G) 1005))
theorem oL_law_1004 (G : Nat × Nat × Nat × Option (Nat × (Nat → Int32)) × (Option Value → qW → Prop)) : qImp (bL_law_1004 G) (AW (mL_law, G) 1004) := (r_aload_n dL_law_1004 rfl qImp.rf)
def bL_law_1008 (G : Nat × Nat × Nat × Option (Nat × (Nat → Int32)) × (Option Value → qW → Prop)) : qK := (s_aload 2 (AW (mL_law, G) 1009))
theorem oL_law_1008 (G : Nat × Nat × Nat × Option (Nat × (Nat → Int32)) × (Option Value → qW → Prop)) : qImp (bL_law_1008 G) (AW (mL_law, G) 1008) := (r_aload_n dL_law_1008 rfl qImp.rf)
def bL_law_1012 (G : Nat × Nat × Nat × Option (Nat × (Nat → Int32)) × (Option Value → qW → Prop)) : qK := (s_ic_eq (AW (mL_law, G) 1142) (s_iconst 0 (s_zreturn (mL_law, G))))
theorem oL_law_1012 (G : Nat × Nat × Nat × Option (Nat × (Nat → Int32)) × (Option Value → qW → Prop)) : qImp (bL_law_1012 G) (AW (mL_law, G) 1012) := (r_ic_eq (tgt := 1142) dL_law_1012 rfl qImp.rf (r_iconst dL_law_1015 rfl (r_zreturn dL_law_1016 rfl)))
def bL_law_1017 (G : Nat × Nat × Nat × Option (Nat × (Nat → Int32)) × (Option Value → qW → Prop)) : qK := (s_aload 1 (AW (mL_law, G) 1018))
theorem oL_law_1017 (G : Nat × Nat × Nat × Option (Nat × (Nat → Int32)) × (Option Value → qW → Prop)) : qImp (bL_law_1017 G) (AW (mL_law, G) 1017) := (r_aload_n dL_law_1017 rfl qImp.rf)
def bL_law_1021 (G : Nat × Nat × Nat × Option (Nat × (Nat → Int32)) × (Option Value → qW → Prop)) : qK := (s_aload 2 (AW (mL_law, G) 1022))
theorem oL_law_1021 (G : Nat × Nat × Nat × Option (Nat × (Nat → Int32)) × (Option Value → qW → Prop)) : qImp (bL_law_1021 G) (AW (mL_law, G) 1021) := (r_aload_n dL_law_1021 rfl qImp.rf)
def bL_law_1025 (G : Nat × Nat × Nat × Option (Nat × (Nat → Int32)) × (Option Value → qW → Prop)) : qK := (s_ic_eq (AW (mL_law, G) 1142) (s_iconst 0 (s_zreturn (mL_law, G))))
theorem oL_law_1025 (G : Nat × Nat × Nat × Option (Nat × (Nat → Int32)) × (Option Value → qW → Prop)) : qImp (bL_law_1025 G) (AW (mL_law, G) 1025) := (r_ic_eq (tgt := 1142) dL_law_1025 rfl qImp.rf (r_iconst dL_law_1028 rfl (r_zreturn dL_law_1029 rfl)))
def bL_law_1030 (G : Nat × Nat × Nat × Option (Nat × (Nat → Int32)) × (Option Value → qW → Prop)) : qK := (s_aload 1 (s_aload 0 (s_iload 3 (s_iconst 1 (s_iadd (s_iaload (mL_law, G) (s_aload 0 (s_iload 3 (s_iconst 2 (s_iadd (s_iaload (mL_law, G) (AW (mL_law, G) 1041))))))))))))
theorem oL_law_1030 (G : Nat × Nat × Nat × Option (Nat × (Nat → Int32)) × (Option Value → qW → Prop)) : qImp (bL_law_1030 G) (AW (mL_law, G) 1030) := (r_aload_n dL_law_1030 rfl (r_aload_n dL_law_1031 rfl (r_iload_n dL_law_1032 rfl (r_iconst dL_law_1033 rfl (r_iadd dL_law_1034 (r_iaload dL_law_1035 (r_aload_n dL_law_1036 rfl (r_iload_n dL_law_1037 rfl (r_iconst dL_law_1038 rfl (r_iadd dL_law_1039 (r_iaload dL_law_1040 qImp.rf)))))))))))
def bL_law_1044 (G : Nat × Nat × Nat × Option (Nat × (Nat → Int32)) × (Option Value → qW → Prop)) : qK := (s_aload 2 (s_aload 0 (s_iload 3 (s_iconst 1 (s_iadd (s_iaload (mL_law, G) (s_aload 0 (s_iload 3 (s_iconst 2 (s_iadd (s_iaload (mL_law, G) (AW (mL_law, G) 1055))))))))))))
theorem oL_law_1044 (G : Nat × Nat × Nat × Option (Nat × (Nat → Int32)) × (Option Value → qW → Prop)) : qImp (bL_law_1044 G) (AW (mL_law, G) 1044) := (r_aload_n dL_law_1044 rfl (r_aload_n dL_law_1045 rfl (r_iload_n dL_law_1046 rfl (r_iconst dL_law_1047 rfl (r_iadd dL_law_1048 (r_iaload dL_law_1049 (r_aload_n dL_law_1050 rfl (r_iload_n dL_law_1051 rfl (r_iconst dL_law_1052 rfl (r_iadd dL_law_1053 (r_iaload dL_law_1054 qImp.rf)))))))))))
def bL_law_1058 (G : Nat × Nat × Nat × Option (Nat × (Nat → Int32)) × (Option Value → qW → Prop)) : qK := (s_ic_eq (AW (mL_law, G) 1142) (s_iconst 0 (s_zreturn (mL_law, G))))
theorem oL_law_1058 (G : Nat × Nat × Nat × Option (Nat × (Nat → Int32)) × (Option Value → qW → Prop)) : qImp (bL_law_1058 G) (AW (mL_law, G) 1058) := (r_ic_eq (tgt := 1142) dL_law_1058 rfl qImp.rf (r_iconst dL_law_1061 rfl (r_zreturn dL_law_1062 rfl)))
def bL_law_1063 (G : Nat × Nat × Nat × Option (Nat × (Nat → Int32)) × (Option Value → qW → Prop)) : qK := (s_aload 1 (s_aload 0 (s_iload 3 (s_iconst 1 (s_iadd (s_iaload (mL_law, G) (AW (mL_law, G) 1069)))))))
theorem oL_law_1063 (G : Nat × Nat × Nat × Option (Nat × (Nat → Int32)) × (Option Value → qW → Prop)) : qImp (bL_law_1063 G) (AW (mL_law, G) 1063) := (r_aload_n dL_law_1063 rfl (r_aload_n dL_law_1064 rfl (r_iload_n dL_law_1065 rfl (r_iconst dL_law_1066 rfl (r_iadd dL_law_1067 (r_iaload dL_law_1068 qImp.rf))))))
def bL_law_1072 (G : Nat × Nat × Nat × Option (Nat × (Nat → Int32)) × (Option Value → qW → Prop)) : qK := (s_aload 2 (s_aload 0 (s_iload 3 (s_iconst 1 (s_iadd (s_iaload (mL_law, G) (AW (mL_law, G) 1078)))))))
theorem oL_law_1072 (G : Nat × Nat × Nat × Option (Nat × (Nat → Int32)) × (Option Value → qW → Prop)) : qImp (bL_law_1072 G) (AW (mL_law, G) 1072) := (r_aload_n dL_law_1072 rfl (r_aload_n dL_law_1073 rfl (r_iload_n dL_law_1074 rfl (r_iconst dL_law_1075 rfl (r_iadd dL_law_1076 (r_iaload dL_law_1077 qImp.rf))))))
def bL_law_1081 (G : Nat × Nat × Nat × Option (Nat × (Nat → Int32)) × (Option Value → qW → Prop)) : qK := (s_ic_eq (AW (mL_law, G) 1142) (s_iconst 0 (s_zreturn (mL_law, G))))
theorem oL_law_1081 (G : Nat × Nat × Nat × Option (Nat × (Nat → Int32)) × (Option Value → qW → Prop)) : qImp (bL_law_1081 G) (AW (mL_law, G) 1081) := (r_ic_eq (tgt := 1142) dL_law_1081 rfl qImp.rf (r_iconst dL_law_1084 rfl (r_zreturn dL_law_1085 rfl)))
def bL_law_1086 (G : Nat × Nat × Nat × Option (Nat × (Nat → Int32)) × (Option Value → qW → Prop)) : qK := (s_aload 1 (s_aload 0 (s_iload 3 (s_iconst 1 (s_iadd (s_iaload (mL_law, G) (AW (mL_law, G) 1092)))))))
theorem oL_law_1086 (G : Nat × Nat × Nat × Option (Nat × (Nat → Int32)) × (Option Value → qW → Prop)) : qImp (bL_law_1086 G) (AW (mL_law, G) 1086) := (r_aload_n dL_law_1086 rfl (r_aload_n dL_law_1087 rfl (r_iload_n dL_law_1088 rfl (r_iconst dL_law_1089 rfl (r_iadd dL_law_1090 (r_iaload dL_law_1091 qImp.rf))))))
def bL_law_1095 (G : Nat × Nat × Nat × Option (Nat × (Nat → Int32)) × (Option Value → qW → Prop)) : qK := (s_aload 2 (s_aload 0 (s_iload 3 (s_iconst 1 (s_iadd (s_iaload (mL_law, G) (AW (mL_law, G) 1101)))))))
theorem oL_law_1095 (G : Nat × Nat × Nat × Option (Nat × (Nat → Int32)) × (Option Value → qW → Prop)) : qImp (bL_law_1095 G) (AW (mL_law, G) 1095) := (r_aload_n dL_law_1095 rfl (r_aload_n dL_law_1096 rfl (r_iload_n dL_law_1097 rfl (r_iconst dL_law_1098 rfl (r_iadd dL_law_1099 (r_iaload dL_law_1100 qImp.rf))))))
def bL_law_1104 (G : Nat × Nat × Nat × Option (Nat × (Nat → Int32)) × (Option Value → qW → Prop)) : qK := (s_ic_eq (AW (mL_law, G) 1142) (s_iconst 0 (s_zreturn (mL_law, G))))
theorem oL_law_1104 (G : Nat × Nat × Nat × Option (Nat × (Nat → Int32)) × (Option Value → qW → Prop)) : qImp (bL_law_1104 G) (AW (mL_law, G) 1104) := (r_ic_eq (tgt := 1142) dL_law_1104 rfl qImp.rf (r_iconst dL_law_1107 rfl (r_zreturn dL_law_1108 rfl)))
def bL_law_1109 (G : Nat × Nat × Nat × Option (Nat × (Nat → Int32)) × (Option Value → qW → Prop)) : qK := (s_aload 1 (s_aload 0 (s_iload 3 (s_iconst 1 (s_iadd (s_iaload (mL_law, G) (s_aload 0 (s_iload 3 (s_iconst 2 (s_iadd (s_iaload (mL_law, G) (AW (mL_law, G) 1120))))))))))))
theorem oL_law_1109 (G : Nat × Nat × Nat × Option (Nat × (Nat → Int32)) × (Option Value → qW → Prop)) : qImp (bL_law_1109 G) (AW (mL_law, G) 1109) := (r_aload_n dL_law_1109 rfl (r_aload_n dL_law_1110 rfl (r_iload_n dL_law_1111 rfl (r_iconst dL_law_1112 rfl (r_iadd dL_law_1113 (r_iaload dL_law_1114 (r_aload_n dL_law_1115 rfl (r_iload_n dL_law_1116 rfl (r_iconst dL_law_1117 rfl (r_iadd dL_law_1118 (r_iaload dL_law_1119 qImp.rf)))))))))))
def bL_law_1123 (G : Nat × Nat × Nat × Option (Nat × (Nat → Int32)) × (Option Value → qW → Prop)) : qK := (s_aload 2 (s_aload 0 (s_iload 3 (s_iconst 1 (s_iadd (s_iaload (mL_law, G) (s_aload 0 (s_iload 3 (s_iconst 2 (s_iadd (s_iaload (mL_law, G) (AW (mL_law, G) 1134))))))))))))
theorem oL_law_1123 (G : Nat × Nat × Nat × Option (Nat × (Nat → Int32)) × (Option Value → qW → Prop)) : qImp (bL_law_1123 G) (AW (mL_law, G) 1123) := (r_aload_n dL_law_1123 rfl (r_aload_n dL_law_1124 rfl (r_iload_n dL_law_1125 rfl (r_iconst dL_law_1126 rfl (r_iadd dL_law_1127 (r_iaload dL_law_1128 (r_aload_n dL_law_1129 rfl (r_iload_n dL_law_1130 rfl (r_iconst dL_law_1131 rfl (r_iadd dL_law_1132 (r_iaload dL_law_1133 qImp.rf)))))))))))
def bL_law_1137 (G : Nat × Nat × Nat × Option (Nat × (Nat → Int32)) × (Option Value → qW → Prop)) : qK := (s_ic_eq (AW (mL_law, G) 1142) (s_iconst 0 (s_zreturn (mL_law, G))))
theorem oL_law_1137 (G : Nat × Nat × Nat × Option (Nat × (Nat → Int32)) × (Option Value → qW → Prop)) : qImp (bL_law_1137 G) (AW (mL_law, G) 1137) := (r_ic_eq (tgt := 1142) dL_law_1137 rfl qImp.rf (r_iconst dL_law_1140 rfl (r_zreturn dL_law_1141 rfl)))
def bL_law_1142 (G : Nat × Nat × Nat × Option (Nat × (Nat → Int32)) × (Option Value → qW → Prop)) : qK := (s_iinc 3 2 8 (AW (mL_law, G) 18))
theorem oL_law_1142 (G : Nat × Nat × Nat × Option (Nat × (Nat → Int32)) × (Option Value → qW → Prop)) : qImp (bL_law_1142 G) (AW (mL_law, G) 1142) := (r_iinc dL_law_1142 rfl (Or.inr rfl) (Nat.le_of_ble_eq_true rfl) (r_goto (tgt := 18) dL_law_1145 rfl qImp.rf))
def bL_law_1148 (G : Nat × Nat × Nat × Option (Nat × (Nat → Int32)) × (Option Value → qW → Prop)) : qK := (s_iconst 1 (s_zreturn (mL_law, G)))
theorem oL_law_1148 (G : Nat × Nat × Nat × Option (Nat × (Nat → Int32)) × (Option Value → qW → Prop)) : qImp (bL_law_1148 G) (AW (mL_law, G) 1148) := (r_iconst dL_law_1148 rfl (r_zreturn dL_law_1149 rfl))
theorem kL_law_4 {G : Nat × Nat × Nat × Option (Nat × (Nat → Int32)) × (Option Value → qW → Prop)} {L : qL} {w : qW} {kc ks : Nat} {rest : List Value} {q : Nat}  {d mc ms : Nat} {Q : Option Value → qW → Prop} (hC : CT mX10_init d mc ms [.ref q] w Q) (hst : rest.length ≤ 4) (hdp : d + 1 ≤ G.1) (hmc : kc + mc ≤ G.2.1 ∧ ks + ms ≤ G.2.2.1) (k : ∀ r w', Q r w' → AW (mL_law, G) 7 L (r.toList ++ rest) w' (kc + mc) (ks + ms)) : AW (mL_law, G) 4 L (.ref q :: rest) w kc ks := a_callI [] rest dL_law_4 iX10_init lk82 hC rfl hst hdp hmc k
theorem kL_law_12 {G : Nat × Nat × Nat × Option (Nat × (Nat → Int32)) × (Option Value → qW → Prop)} {L : qL} {w : qW} {kc ks : Nat} {rest : List Value} {q : Nat}  {d mc ms : Nat} {Q : Option Value → qW → Prop} (hC : CT mX11_init d mc ms [.ref q] w Q) (hst : rest.length ≤ 4) (hdp : d + 1 ≤ G.1) (hmc : kc + mc ≤ G.2.1 ∧ ks + ms ≤ G.2.2.1) (k : ∀ r w', Q r w' → AW (mL_law, G) 15 L (r.toList ++ rest) w' (kc + mc) (ks + ms)) : AW (mL_law, G) 12 L (.ref q :: rest) w kc ks := a_callI [] rest dL_law_12 iX11_init lk897 hC rfl hst hdp hmc k
theorem kL_law_186 {G : Nat × Nat × Nat × Option (Nat × (Nat → Int32)) × (Option Value → qW → Prop)} {L : qL} {w : qW} {kc ks : Nat} {rest : List Value} {q : Nat} {x0 : Int32} {x1 : Int64} {d mc ms : Nat} {Q : Option Value → qW → Prop} (hC : CT mX10_source d mc ms [.ref q, .int x0, .long x1] w Q) (hq : qci w q = some 10) (hst : rest.length ≤ 4) (hdp : d + 1 ≤ G.1) (hmc : kc + mc ≤ G.2.1 ∧ ks + ms ≤ G.2.2.1) (k : ∀ r w', Q r w' → AW (mL_law, G) 189 L (r.toList ++ rest) w' (kc + mc) (ks + ms)) : AW (mL_law, G) 186 L (.long x1 :: .int x0 :: .ref q :: rest) w kc ks := a_callV [.int x0, .long x1] rest dL_law_186 vX10_source lk334 hC hq rfl rfl hst hdp hmc k
theorem kL_law_215 {G : Nat × Nat × Nat × Option (Nat × (Nat → Int32)) × (Option Value → qW → Prop)} {L : qL} {w : qW} {kc ks : Nat} {rest : List Value} {q : Nat} {x0 : Int32} {x1 : Int64} {d mc ms : Nat} {Q : Option Value → qW → Prop} (hC : CT mX11_source d mc ms [.ref q, .int x0, .long x1] w Q) (hq : qci w q = some 11) (hst : rest.length ≤ 4) (hdp : d + 1 ≤ G.1) (hmc : kc + mc ≤ G.2.1 ∧ ks + ms ≤ G.2.2.1) (k : ∀ r w', Q r w' → AW (mL_law, G) 218 L (r.toList ++ rest) w' (kc + mc) (ks + ms)) : AW (mL_law, G) 215 L (.long x1 :: .int x0 :: .ref q :: rest) w kc ks := a_callV [.int x0, .long x1] rest dL_law_215 vX11_source lk1023 hC hq rfl rfl hst hdp hmc k
theorem kL_law_271 {G : Nat × Nat × Nat × Option (Nat × (Nat → Int32)) × (Option Value → qW → Prop)} {L : qL} {w : qW} {kc ks : Nat} {rest : List Value} {q : Nat} {x0 : Int32} {x1 : Int32} {x2 : Int32} {x3 : Int32} {x4 : Int32} {x5 : Int64} {d mc ms : Nat} {Q : Option Value → qW → Prop} (hC : CT mX10_build d mc ms [.ref q, .int x0, .int x1, .int x2, .int x3, .int x4, .long x5] w Q) (hq : qci w q = some 10) (hst : rest.length ≤ 4) (hdp : d + 1 ≤ G.1) (hmc : kc + mc ≤ G.2.1 ∧ ks + ms ≤ G.2.2.1) (k : ∀ r w', Q r w' → AW (mL_law, G) 274 L (r.toList ++ rest) w' (kc + mc) (ks + ms)) : AW (mL_law, G) 271 L (.long x5 :: .int x4 :: .int x3 :: .int x2 :: .int x1 :: .int x0 :: .ref q :: rest) w kc ks := a_callV [.int x0, .int x1, .int x2, .int x3, .int x4, .long x5] rest dL_law_271 vX10_build lk432 hC hq rfl rfl hst hdp hmc k
theorem kL_law_322 {G : Nat × Nat × Nat × Option (Nat × (Nat → Int32)) × (Option Value → qW → Prop)} {L : qL} {w : qW} {kc ks : Nat} {rest : List Value} {q : Nat} {x0 : Int32} {x1 : Int32} {x2 : Int32} {x3 : Int32} {x4 : Int32} {x5 : Int64} {d mc ms : Nat} {Q : Option Value → qW → Prop} (hC : CT mX11_build d mc ms [.ref q, .int x0, .int x1, .int x2, .int x3, .int x4, .long x5] w Q) (hq : qci w q = some 11) (hst : rest.length ≤ 4) (hdp : d + 1 ≤ G.1) (hmc : kc + mc ≤ G.2.1 ∧ ks + ms ≤ G.2.2.1) (k : ∀ r w', Q r w' → AW (mL_law, G) 325 L (r.toList ++ rest) w' (kc + mc) (ks + ms)) : AW (mL_law, G) 322 L (.long x5 :: .int x4 :: .int x3 :: .int x2 :: .int x1 :: .int x0 :: .ref q :: rest) w kc ks := a_callV [.int x0, .int x1, .int x2, .int x3, .int x4, .long x5] rest dL_law_322 vX11_build lk1060 hC hq rfl rfl hst hdp hmc k
theorem kL_law_351 {G : Nat × Nat × Nat × Option (Nat × (Nat → Int32)) × (Option Value → qW → Prop)} {L : qL} {w : qW} {kc ks : Nat} {rest : List Value} {q : Nat} {x0 : Int32} {x1 : Int32} {x2 : Int32} {x3 : Int32} {d mc ms : Nat} {Q : Option Value → qW → Prop} (hC : CT mX10_mix d mc ms [.ref q, .int x0, .int x1, .int x2, .int x3] w Q) (hq : qci w q = some 10) (hst : rest.length ≤ 4) (hdp : d + 1 ≤ G.1) (hmc : kc + mc ≤ G.2.1 ∧ ks + ms ≤ G.2.2.1) (k : ∀ r w', Q r w' → AW (mL_law, G) 354 L (r.toList ++ rest) w' (kc + mc) (ks + ms)) : AW (mL_law, G) 351 L (.int x3 :: .int x2 :: .int x1 :: .int x0 :: .ref q :: rest) w kc ks := a_callV [.int x0, .int x1, .int x2, .int x3] rest dL_law_351 vX10_mix lk482 hC hq rfl rfl hst hdp hmc k
theorem kL_law_375 {G : Nat × Nat × Nat × Option (Nat × (Nat → Int32)) × (Option Value → qW → Prop)} {L : qL} {w : qW} {kc ks : Nat} {rest : List Value} {q : Nat} {x0 : Int32} {x1 : Int32} {x2 : Int32} {x3 : Int32} {d mc ms : Nat} {Q : Option Value → qW → Prop} (hC : CT mX11_mix d mc ms [.ref q, .int x0, .int x1, .int x2, .int x3] w Q) (hq : qci w q = some 11) (hst : rest.length ≤ 4) (hdp : d + 1 ≤ G.1) (hmc : kc + mc ≤ G.2.1 ∧ ks + ms ≤ G.2.2.1) (k : ∀ r w', Q r w' → AW (mL_law, G) 378 L (r.toList ++ rest) w' (kc + mc) (ks + ms)) : AW (mL_law, G) 375 L (.int x3 :: .int x2 :: .int x1 :: .int x0 :: .ref q :: rest) w kc ks := a_callV [.int x0, .int x1, .int x2, .int x3] rest dL_law_375 vX11_mix lk1042 hC hq rfl rfl hst hdp hmc k
theorem kL_law_408 {G : Nat × Nat × Nat × Option (Nat × (Nat → Int32)) × (Option Value → qW → Prop)} {L : qL} {w : qW} {kc ks : Nat} {rest : List Value} {q : Nat} {x0 : Int32} {x1 : Int32} {x2 : Int32} {d mc ms : Nat} {Q : Option Value → qW → Prop} (hC : CT mX10_tries d mc ms [.ref q, .int x0, .int x1, .int x2] w Q) (hq : qci w q = some 10) (hst : rest.length ≤ 4) (hdp : d + 1 ≤ G.1) (hmc : kc + mc ≤ G.2.1 ∧ ks + ms ≤ G.2.2.1) (k : ∀ r w', Q r w' → AW (mL_law, G) 411 L (r.toList ++ rest) w' (kc + mc) (ks + ms)) : AW (mL_law, G) 408 L (.int x2 :: .int x1 :: .int x0 :: .ref q :: rest) w kc ks := a_callV [.int x0, .int x1, .int x2] rest dL_law_408 vX10_tries lk486 hC hq rfl rfl hst hdp hmc k
theorem kL_law_435 {G : Nat × Nat × Nat × Option (Nat × (Nat → Int32)) × (Option Value → qW → Prop)} {L : qL} {w : qW} {kc ks : Nat} {rest : List Value} {q : Nat} {x0 : Int32} {x1 : Int32} {x2 : Int32} {d mc ms : Nat} {Q : Option Value → qW → Prop} (hC : CT mX11_tries d mc ms [.ref q, .int x0, .int x1, .int x2] w Q) (hq : qci w q = some 11) (hst : rest.length ≤ 4) (hdp : d + 1 ≤ G.1) (hmc : kc + mc ≤ G.2.1 ∧ ks + ms ≤ G.2.2.1) (k : ∀ r w', Q r w' → AW (mL_law, G) 438 L (r.toList ++ rest) w' (kc + mc) (ks + ms)) : AW (mL_law, G) 435 L (.int x2 :: .int x1 :: .int x0 :: .ref q :: rest) w kc ks := a_callV [.int x0, .int x1, .int x2] rest dL_law_435 vX11_tries lk1076 hC hq rfl rfl hst hdp hmc k
theorem kL_law_467 {G : Nat × Nat × Nat × Option (Nat × (Nat → Int32)) × (Option Value → qW → Prop)} {L : qL} {w : qW} {kc ks : Nat} {rest : List Value} {q : Nat} {x0 : Int32} {x1 : Int32} {x2 : Int32} {d mc ms : Nat} {Q : Option Value → qW → Prop} (hC : CT mX10_review d mc ms [.ref q, .int x0, .int x1, .int x2] w Q) (hq : qci w q = some 10) (hst : rest.length ≤ 4) (hdp : d + 1 ≤ G.1) (hmc : kc + mc ≤ G.2.1 ∧ ks + ms ≤ G.2.2.1) (k : ∀ r w', Q r w' → AW (mL_law, G) 470 L (r.toList ++ rest) w' (kc + mc) (ks + ms)) : AW (mL_law, G) 467 L (.int x2 :: .int x1 :: .int x0 :: .ref q :: rest) w kc ks := a_callV [.int x0, .int x1, .int x2] rest dL_law_467 vX10_review lk498 hC hq rfl rfl hst hdp hmc k
theorem kL_law_494 {G : Nat × Nat × Nat × Option (Nat × (Nat → Int32)) × (Option Value → qW → Prop)} {L : qL} {w : qW} {kc ks : Nat} {rest : List Value} {q : Nat} {x0 : Int32} {x1 : Int32} {x2 : Int32} {d mc ms : Nat} {Q : Option Value → qW → Prop} (hC : CT mX11_review d mc ms [.ref q, .int x0, .int x1, .int x2] w Q) (hq : qci w q = some 11) (hst : rest.length ≤ 4) (hdp : d + 1 ≤ G.1) (hmc : kc + mc ≤ G.2.1 ∧ ks + ms ≤ G.2.2.1) (k : ∀ r w', Q r w' → AW (mL_law, G) 497 L (r.toList ++ rest) w' (kc + mc) (ks + ms)) : AW (mL_law, G) 494 L (.int x2 :: .int x1 :: .int x0 :: .ref q :: rest) w kc ks := a_callV [.int x0, .int x1, .int x2] rest dL_law_494 vX11_review lk1084 hC hq rfl rfl hst hdp hmc k
theorem kL_law_508 {G : Nat × Nat × Nat × Option (Nat × (Nat → Int32)) × (Option Value → qW → Prop)} {L : qL} {w : qW} {kc ks : Nat} {rest : List Value} {q : Nat} {x0 : Int32} {d mc ms : Nat} {Q : Option Value → qW → Prop} (hC : CT mX10_feed d mc ms [.ref q, .int x0] w Q) (hq : qci w q = some 10) (hst : rest.length ≤ 4) (hdp : d + 1 ≤ G.1) (hmc : kc + mc ≤ G.2.1 ∧ ks + ms ≤ G.2.2.1) (k : ∀ r w', Q r w' → AW (mL_law, G) 511 L (r.toList ++ rest) w' (kc + mc) (ks + ms)) : AW (mL_law, G) 508 L (.int x0 :: .ref q :: rest) w kc ks := a_callV [.int x0] rest dL_law_508 vX10_feed lk506 hC hq rfl rfl hst hdp hmc k
theorem kL_law_517 {G : Nat × Nat × Nat × Option (Nat × (Nat → Int32)) × (Option Value → qW → Prop)} {L : qL} {w : qW} {kc ks : Nat} {rest : List Value} {q : Nat} {x0 : Int32} {d mc ms : Nat} {Q : Option Value → qW → Prop} (hC : CT mX11_feed d mc ms [.ref q, .int x0] w Q) (hq : qci w q = some 11) (hst : rest.length ≤ 4) (hdp : d + 1 ≤ G.1) (hmc : kc + mc ≤ G.2.1 ∧ ks + ms ≤ G.2.2.1) (k : ∀ r w', Q r w' → AW (mL_law, G) 520 L (r.toList ++ rest) w' (kc + mc) (ks + ms)) : AW (mL_law, G) 517 L (.int x0 :: .ref q :: rest) w kc ks := a_callV [.int x0] rest dL_law_517 vX11_feed lk1088 hC hq rfl rfl hst hdp hmc k
theorem kL_law_531 {G : Nat × Nat × Nat × Option (Nat × (Nat → Int32)) × (Option Value → qW → Prop)} {L : qL} {w : qW} {kc ks : Nat} {rest : List Value} {q : Nat} {x0 : Int32} {d mc ms : Nat} {Q : Option Value → qW → Prop} (hC : CT mX10_end d mc ms [.ref q, .int x0] w Q) (hq : qci w q = some 10) (hst : rest.length ≤ 4) (hdp : d + 1 ≤ G.1) (hmc : kc + mc ≤ G.2.1 ∧ ks + ms ≤ G.2.2.1) (k : ∀ r w', Q r w' → AW (mL_law, G) 534 L (r.toList ++ rest) w' (kc + mc) (ks + ms)) : AW (mL_law, G) 531 L (.int x0 :: .ref q :: rest) w kc ks := a_callV [.int x0] rest dL_law_531 vX10_end lk515 hC hq rfl rfl hst hdp hmc k
theorem kL_law_540 {G : Nat × Nat × Nat × Option (Nat × (Nat → Int32)) × (Option Value → qW → Prop)} {L : qL} {w : qW} {kc ks : Nat} {rest : List Value} {q : Nat} {x0 : Int32} {d mc ms : Nat} {Q : Option Value → qW → Prop} (hC : CT mX11_end d mc ms [.ref q, .int x0] w Q) (hq : qci w q = some 11) (hst : rest.length ≤ 4) (hdp : d + 1 ≤ G.1) (hmc : kc + mc ≤ G.2.1 ∧ ks + ms ≤ G.2.2.1) (k : ∀ r w', Q r w' → AW (mL_law, G) 543 L (r.toList ++ rest) w' (kc + mc) (ks + ms)) : AW (mL_law, G) 540 L (.int x0 :: .ref q :: rest) w kc ks := a_callV [.int x0] rest dL_law_540 vX11_end lk1092 hC hq rfl rfl hst hdp hmc k
theorem kL_law_549 {G : Nat × Nat × Nat × Option (Nat × (Nat → Int32)) × (Option Value → qW → Prop)} {L : qL} {w : qW} {kc ks : Nat} {rest : List Value} {q : Nat}  {d mc ms : Nat} {Q : Option Value → qW → Prop} (hC : CT mX10_fault d mc ms [.ref q] w Q) (hq : qci w q = some 10) (hst : rest.length ≤ 4) (hdp : d + 1 ≤ G.1) (hmc : kc + mc ≤ G.2.1 ∧ ks + ms ≤ G.2.2.1) (k : ∀ r w', Q r w' → AW (mL_law, G) 552 L (r.toList ++ rest) w' (kc + mc) (ks + ms)) : AW (mL_law, G) 549 L (.ref q :: rest) w kc ks := a_callV [] rest dL_law_549 vX10_fault lk523 hC hq rfl rfl hst hdp hmc k
theorem kL_law_553 {G : Nat × Nat × Nat × Option (Nat × (Nat → Int32)) × (Option Value → qW → Prop)} {L : qL} {w : qW} {kc ks : Nat} {rest : List Value} {q : Nat}  {d mc ms : Nat} {Q : Option Value → qW → Prop} (hC : CT mX11_fault d mc ms [.ref q] w Q) (hq : qci w q = some 11) (hst : rest.length ≤ 4) (hdp : d + 1 ≤ G.1) (hmc : kc + mc ≤ G.2.1 ∧ ks + ms ≤ G.2.2.1) (k : ∀ r w', Q r w' → AW (mL_law, G) 556 L (r.toList ++ rest) w' (kc + mc) (ks + ms)) : AW (mL_law, G) 553 L (.ref q :: rest) w kc ks := a_callV [] rest dL_law_553 vX11_fault lk1096 hC hq rfl rfl hst hdp hmc k
theorem kL_law_562 {G : Nat × Nat × Nat × Option (Nat × (Nat → Int32)) × (Option Value → qW → Prop)} {L : qL} {w : qW} {kc ks : Nat} {rest : List Value} {q : Nat}  {d mc ms : Nat} {Q : Option Value → qW → Prop} (hC : CT mX10_rule d mc ms [.ref q] w Q) (hq : qci w q = some 10) (hst : rest.length ≤ 4) (hdp : d + 1 ≤ G.1) (hmc : kc + mc ≤ G.2.1 ∧ ks + ms ≤ G.2.2.1) (k : ∀ r w', Q r w' → AW (mL_law, G) 565 L (r.toList ++ rest) w' (kc + mc) (ks + ms)) : AW (mL_law, G) 562 L (.ref q :: rest) w kc ks := a_callV [] rest dL_law_562 vX10_rule lk565 hC hq rfl rfl hst hdp hmc k
theorem kL_law_566 {G : Nat × Nat × Nat × Option (Nat × (Nat → Int32)) × (Option Value → qW → Prop)} {L : qL} {w : qW} {kc ks : Nat} {rest : List Value} {q : Nat}  {d mc ms : Nat} {Q : Option Value → qW → Prop} (hC : CT mX11_rule d mc ms [.ref q] w Q) (hq : qci w q = some 11) (hst : rest.length ≤ 4) (hdp : d + 1 ≤ G.1) (hmc : kc + mc ≤ G.2.1 ∧ ks + ms ≤ G.2.2.1) (k : ∀ r w', Q r w' → AW (mL_law, G) 569 L (r.toList ++ rest) w' (kc + mc) (ks + ms)) : AW (mL_law, G) 566 L (.ref q :: rest) w kc ks := a_callV [] rest dL_law_566 vX11_rule lk1124 hC hq rfl rfl hst hdp hmc k
theorem kL_law_580 {G : Nat × Nat × Nat × Option (Nat × (Nat → Int32)) × (Option Value → qW → Prop)} {L : qL} {w : qW} {kc ks : Nat} {rest : List Value} {q : Nat} {x0 : Int32} {d mc ms : Nat} {Q : Option Value → qW → Prop} (hC : CT mX10_ask d mc ms [.ref q, .int x0] w Q) (hq : qci w q = some 10) (hst : rest.length ≤ 4) (hdp : d + 1 ≤ G.1) (hmc : kc + mc ≤ G.2.1 ∧ ks + ms ≤ G.2.2.1) (k : ∀ r w', Q r w' → AW (mL_law, G) 583 L (r.toList ++ rest) w' (kc + mc) (ks + ms)) : AW (mL_law, G) 580 L (.int x0 :: .ref q :: rest) w kc ks := a_callV [.int x0] rest dL_law_580 vX10_ask lk593 hC hq rfl rfl hst hdp hmc k
theorem kL_law_589 {G : Nat × Nat × Nat × Option (Nat × (Nat → Int32)) × (Option Value → qW → Prop)} {L : qL} {w : qW} {kc ks : Nat} {rest : List Value} {q : Nat} {x0 : Int32} {d mc ms : Nat} {Q : Option Value → qW → Prop} (hC : CT mX11_ask d mc ms [.ref q, .int x0] w Q) (hq : qci w q = some 11) (hst : rest.length ≤ 4) (hdp : d + 1 ≤ G.1) (hmc : kc + mc ≤ G.2.1 ∧ ks + ms ≤ G.2.2.1) (k : ∀ r w', Q r w' → AW (mL_law, G) 592 L (r.toList ++ rest) w' (kc + mc) (ks + ms)) : AW (mL_law, G) 589 L (.int x0 :: .ref q :: rest) w kc ks := a_callV [.int x0] rest dL_law_589 vX11_ask lk1129 hC hq rfl rfl hst hdp hmc k
theorem kL_law_598 {G : Nat × Nat × Nat × Option (Nat × (Nat → Int32)) × (Option Value → qW → Prop)} {L : qL} {w : qW} {kc ks : Nat} {rest : List Value} {q : Nat}  {d mc ms : Nat} {Q : Option Value → qW → Prop} (hC : CT mX10_skip d mc ms [.ref q] w Q) (hq : qci w q = some 10) (hst : rest.length ≤ 4) (hdp : d + 1 ≤ G.1) (hmc : kc + mc ≤ G.2.1 ∧ ks + ms ≤ G.2.2.1) (k : ∀ r w', Q r w' → AW (mL_law, G) 601 L (r.toList ++ rest) w' (kc + mc) (ks + ms)) : AW (mL_law, G) 598 L (.ref q :: rest) w kc ks := a_callV [] rest dL_law_598 vX10_skip lk605 hC hq rfl rfl hst hdp hmc k
theorem kL_law_602 {G : Nat × Nat × Nat × Option (Nat × (Nat → Int32)) × (Option Value → qW → Prop)} {L : qL} {w : qW} {kc ks : Nat} {rest : List Value} {q : Nat}  {d mc ms : Nat} {Q : Option Value → qW → Prop} (hC : CT mX11_skip d mc ms [.ref q] w Q) (hq : qci w q = some 11) (hst : rest.length ≤ 4) (hdp : d + 1 ≤ G.1) (hmc : kc + mc ≤ G.2.1 ∧ ks + ms ≤ G.2.2.1) (k : ∀ r w', Q r w' → AW (mL_law, G) 605 L (r.toList ++ rest) w' (kc + mc) (ks + ms)) : AW (mL_law, G) 602 L (.ref q :: rest) w kc ks := a_callV [] rest dL_law_602 vX11_skip lk1137 hC hq rfl rfl hst hdp hmc k
theorem kL_law_626 {G : Nat × Nat × Nat × Option (Nat × (Nat → Int32)) × (Option Value → qW → Prop)} {L : qL} {w : qW} {kc ks : Nat} {rest : List Value} {q : Nat} {x0 : Int32} {x1 : Int32} {x2 : Int32} {d mc ms : Nat} {Q : Option Value → qW → Prop} (hC : CT mX10_seal d mc ms [.ref q, .int x0, .int x1, .int x2] w Q) (hq : qci w q = some 10) (hst : rest.length ≤ 4) (hdp : d + 1 ≤ G.1) (hmc : kc + mc ≤ G.2.1 ∧ ks + ms ≤ G.2.2.1) (k : ∀ r w', Q r w' → AW (mL_law, G) 629 L (r.toList ++ rest) w' (kc + mc) (ks + ms)) : AW (mL_law, G) 626 L (.int x2 :: .int x1 :: .int x0 :: .ref q :: rest) w kc ks := a_callV [.int x0, .int x1, .int x2] rest dL_law_626 vX10_seal lk618 hC hq rfl rfl hst hdp hmc k
theorem kL_law_645 {G : Nat × Nat × Nat × Option (Nat × (Nat → Int32)) × (Option Value → qW → Prop)} {L : qL} {w : qW} {kc ks : Nat} {rest : List Value} {q : Nat} {x0 : Int32} {x1 : Int32} {x2 : Int32} {d mc ms : Nat} {Q : Option Value → qW → Prop} (hC : CT mX11_seal d mc ms [.ref q, .int x0, .int x1, .int x2] w Q) (hq : qci w q = some 11) (hst : rest.length ≤ 4) (hdp : d + 1 ≤ G.1) (hmc : kc + mc ≤ G.2.1 ∧ ks + ms ≤ G.2.2.1) (k : ∀ r w', Q r w' → AW (mL_law, G) 648 L (r.toList ++ rest) w' (kc + mc) (ks + ms)) : AW (mL_law, G) 645 L (.int x2 :: .int x1 :: .int x0 :: .ref q :: rest) w kc ks := a_callV [.int x0, .int x1, .int x2] rest dL_law_645 vX11_seal lk1185 hC hq rfl rfl hst hdp hmc k
theorem kL_law_669 {G : Nat × Nat × Nat × Option (Nat × (Nat → Int32)) × (Option Value → qW → Prop)} {L : qL} {w : qW} {kc ks : Nat} {rest : List Value} {q : Nat} {x0 : Int32} {x1 : Int32} {x2 : Int32} {d mc ms : Nat} {Q : Option Value → qW → Prop} (hC : CT mX10_why d mc ms [.ref q, .int x0, .int x1, .int x2] w Q) (hq : qci w q = some 10) (hst : rest.length ≤ 4) (hdp : d + 1 ≤ G.1) (hmc : kc + mc ≤ G.2.1 ∧ ks + ms ≤ G.2.2.1) (k : ∀ r w', Q r w' → AW (mL_law, G) 672 L (r.toList ++ rest) w' (kc + mc) (ks + ms)) : AW (mL_law, G) 669 L (.int x2 :: .int x1 :: .int x0 :: .ref q :: rest) w kc ks := a_callV [.int x0, .int x1, .int x2] rest dL_law_669 vX10_why lk702 hC hq rfl rfl hst hdp hmc k
theorem kL_law_688 {G : Nat × Nat × Nat × Option (Nat × (Nat → Int32)) × (Option Value → qW → Prop)} {L : qL} {w : qW} {kc ks : Nat} {rest : List Value} {q : Nat} {x0 : Int32} {x1 : Int32} {x2 : Int32} {d mc ms : Nat} {Q : Option Value → qW → Prop} (hC : CT mX11_why d mc ms [.ref q, .int x0, .int x1, .int x2] w Q) (hq : qci w q = some 11) (hst : rest.length ≤ 4) (hdp : d + 1 ≤ G.1) (hmc : kc + mc ≤ G.2.1 ∧ ks + ms ≤ G.2.2.1) (k : ∀ r w', Q r w' → AW (mL_law, G) 691 L (r.toList ++ rest) w' (kc + mc) (ks + ms)) : AW (mL_law, G) 688 L (.int x2 :: .int x1 :: .int x0 :: .ref q :: rest) w kc ks := a_callV [.int x0, .int x1, .int x2] rest dL_law_688 vX11_why lk1141 hC hq rfl rfl hst hdp hmc k
theorem kL_law_707 {G : Nat × Nat × Nat × Option (Nat × (Nat → Int32)) × (Option Value → qW → Prop)} {L : qL} {w : qW} {kc ks : Nat} {rest : List Value} {q : Nat} {x0 : Int32} {x1 : Int32} {d mc ms : Nat} {Q : Option Value → qW → Prop} (hC : CT mX10_uses d mc ms [.ref q, .int x0, .int x1] w Q) (hq : qci w q = some 10) (hst : rest.length ≤ 4) (hdp : d + 1 ≤ G.1) (hmc : kc + mc ≤ G.2.1 ∧ ks + ms ≤ G.2.2.1) (k : ∀ r w', Q r w' → AW (mL_law, G) 710 L (r.toList ++ rest) w' (kc + mc) (ks + ms)) : AW (mL_law, G) 707 L (.int x1 :: .int x0 :: .ref q :: rest) w kc ks := a_callV [.int x0, .int x1] rest dL_law_707 vX10_uses lk706 hC hq rfl rfl hst hdp hmc k
theorem kL_law_721 {G : Nat × Nat × Nat × Option (Nat × (Nat → Int32)) × (Option Value → qW → Prop)} {L : qL} {w : qW} {kc ks : Nat} {rest : List Value} {q : Nat} {x0 : Int32} {x1 : Int32} {d mc ms : Nat} {Q : Option Value → qW → Prop} (hC : CT mX11_uses d mc ms [.ref q, .int x0, .int x1] w Q) (hq : qci w q = some 11) (hst : rest.length ≤ 4) (hdp : d + 1 ≤ G.1) (hmc : kc + mc ≤ G.2.1 ∧ ks + ms ≤ G.2.2.1) (k : ∀ r w', Q r w' → AW (mL_law, G) 724 L (r.toList ++ rest) w' (kc + mc) (ks + ms)) : AW (mL_law, G) 721 L (.int x1 :: .int x0 :: .ref q :: rest) w kc ks := a_callV [.int x0, .int x1] rest dL_law_721 vX11_uses lk1191 hC hq rfl rfl hst hdp hmc k
theorem kL_law_735 {G : Nat × Nat × Nat × Option (Nat × (Nat → Int32)) × (Option Value → qW → Prop)} {L : qL} {w : qW} {kc ks : Nat} {rest : List Value} {q : Nat} {x0 : Int32} {d mc ms : Nat} {Q : Option Value → qW → Prop} (hC : CT mX10_finish d mc ms [.ref q, .int x0] w Q) (hq : qci w q = some 10) (hst : rest.length ≤ 4) (hdp : d + 1 ≤ G.1) (hmc : kc + mc ≤ G.2.1 ∧ ks + ms ≤ G.2.2.1) (k : ∀ r w', Q r w' → AW (mL_law, G) 738 L (r.toList ++ rest) w' (kc + mc) (ks + ms)) : AW (mL_law, G) 735 L (.int x0 :: .ref q :: rest) w kc ks := a_callV [.int x0] rest dL_law_735 vX10_finish lk715 hC hq rfl rfl hst hdp hmc k
theorem kL_law_744 {G : Nat × Nat × Nat × Option (Nat × (Nat → Int32)) × (Option Value → qW → Prop)} {L : qL} {w : qW} {kc ks : Nat} {rest : List Value} {q : Nat} {x0 : Int32} {d mc ms : Nat} {Q : Option Value → qW → Prop} (hC : CT mX11_finish d mc ms [.ref q, .int x0] w Q) (hq : qci w q = some 11) (hst : rest.length ≤ 4) (hdp : d + 1 ≤ G.1) (hmc : kc + mc ≤ G.2.1 ∧ ks + ms ≤ G.2.2.1) (k : ∀ r w', Q r w' → AW (mL_law, G) 747 L (r.toList ++ rest) w' (kc + mc) (ks + ms)) : AW (mL_law, G) 744 L (.int x0 :: .ref q :: rest) w kc ks := a_callV [.int x0] rest dL_law_744 vX11_finish lk1196 hC hq rfl rfl hst hdp hmc k
theorem kL_law_763 {G : Nat × Nat × Nat × Option (Nat × (Nat → Int32)) × (Option Value → qW → Prop)} {L : qL} {w : qW} {kc ks : Nat} {rest : List Value} {q : Nat} {x0 : Int32} {x1 : Int32} {d mc ms : Nat} {Q : Option Value → qW → Prop} (hC : CT mX10_lose d mc ms [.ref q, .int x0, .int x1] w Q) (hq : qci w q = some 10) (hst : rest.length ≤ 4) (hdp : d + 1 ≤ G.1) (hmc : kc + mc ≤ G.2.1 ∧ ks + ms ≤ G.2.2.1) (k : ∀ r w', Q r w' → AW (mL_law, G) 766 L (r.toList ++ rest) w' (kc + mc) (ks + ms)) : AW (mL_law, G) 763 L (.int x1 :: .int x0 :: .ref q :: rest) w kc ks := a_callV [.int x0, .int x1] rest dL_law_763 vX10_lose lk723 hC hq rfl rfl hst hdp hmc k
theorem kL_law_777 {G : Nat × Nat × Nat × Option (Nat × (Nat → Int32)) × (Option Value → qW → Prop)} {L : qL} {w : qW} {kc ks : Nat} {rest : List Value} {q : Nat} {x0 : Int32} {x1 : Int32} {d mc ms : Nat} {Q : Option Value → qW → Prop} (hC : CT mX11_lose d mc ms [.ref q, .int x0, .int x1] w Q) (hq : qci w q = some 11) (hst : rest.length ≤ 4) (hdp : d + 1 ≤ G.1) (hmc : kc + mc ≤ G.2.1 ∧ ks + ms ≤ G.2.2.1) (k : ∀ r w', Q r w' → AW (mL_law, G) 780 L (r.toList ++ rest) w' (kc + mc) (ks + ms)) : AW (mL_law, G) 777 L (.int x1 :: .int x0 :: .ref q :: rest) w kc ks := a_callV [.int x0, .int x1] rest dL_law_777 vX11_lose lk1200 hC hq rfl rfl hst hdp hmc k
theorem kL_law_801 {G : Nat × Nat × Nat × Option (Nat × (Nat → Int32)) × (Option Value → qW → Prop)} {L : qL} {w : qW} {kc ks : Nat} {rest : List Value} {q : Nat} {x0 : Int32} {x1 : Int32} {x2 : Int32} {d mc ms : Nat} {Q : Option Value → qW → Prop} (hC : CT mX10_recall d mc ms [.ref q, .int x0, .int x1, .int x2] w Q) (hq : qci w q = some 10) (hst : rest.length ≤ 4) (hdp : d + 1 ≤ G.1) (hmc : kc + mc ≤ G.2.1 ∧ ks + ms ≤ G.2.2.1) (k : ∀ r w', Q r w' → AW (mL_law, G) 804 L (r.toList ++ rest) w' (kc + mc) (ks + ms)) : AW (mL_law, G) 801 L (.int x2 :: .int x1 :: .int x0 :: .ref q :: rest) w kc ks := a_callV [.int x0, .int x1, .int x2] rest dL_law_801 vX10_recall lk733 hC hq rfl rfl hst hdp hmc k
theorem kL_law_820 {G : Nat × Nat × Nat × Option (Nat × (Nat → Int32)) × (Option Value → qW → Prop)} {L : qL} {w : qW} {kc ks : Nat} {rest : List Value} {q : Nat} {x0 : Int32} {x1 : Int32} {x2 : Int32} {d mc ms : Nat} {Q : Option Value → qW → Prop} (hC : CT mX11_recall d mc ms [.ref q, .int x0, .int x1, .int x2] w Q) (hq : qci w q = some 11) (hst : rest.length ≤ 4) (hdp : d + 1 ≤ G.1) (hmc : kc + mc ≤ G.2.1 ∧ ks + ms ≤ G.2.2.1) (k : ∀ r w', Q r w' → AW (mL_law, G) 823 L (r.toList ++ rest) w' (kc + mc) (ks + ms)) : AW (mL_law, G) 820 L (.int x2 :: .int x1 :: .int x0 :: .ref q :: rest) w kc ks := a_callV [.int x0, .int x1, .int x2] rest dL_law_820 vX11_recall lk1204 hC hq rfl rfl hst hdp hmc k
theorem kL_law_839 {G : Nat × Nat × Nat × Option (Nat × (Nat → Int32)) × (Option Value → qW → Prop)} {L : qL} {w : qW} {kc ks : Nat} {rest : List Value} {q : Nat} {x0 : Int32} {x1 : Int32} {d mc ms : Nat} {Q : Option Value → qW → Prop} (hC : CT mX10_file d mc ms [.ref q, .int x0, .int x1] w Q) (hq : qci w q = some 10) (hst : rest.length ≤ 4) (hdp : d + 1 ≤ G.1) (hmc : kc + mc ≤ G.2.1 ∧ ks + ms ≤ G.2.2.1) (k : ∀ r w', Q r w' → AW (mL_law, G) 842 L (r.toList ++ rest) w' (kc + mc) (ks + ms)) : AW (mL_law, G) 839 L (.int x1 :: .int x0 :: .ref q :: rest) w kc ks := a_callV [.int x0, .int x1] rest dL_law_839 vX10_file lk758 hC hq rfl rfl hst hdp hmc k
theorem kL_law_853 {G : Nat × Nat × Nat × Option (Nat × (Nat → Int32)) × (Option Value → qW → Prop)} {L : qL} {w : qW} {kc ks : Nat} {rest : List Value} {q : Nat} {x0 : Int32} {x1 : Int32} {d mc ms : Nat} {Q : Option Value → qW → Prop} (hC : CT mX11_file d mc ms [.ref q, .int x0, .int x1] w Q) (hq : qci w q = some 11) (hst : rest.length ≤ 4) (hdp : d + 1 ≤ G.1) (hmc : kc + mc ≤ G.2.1 ∧ ks + ms ≤ G.2.2.1) (k : ∀ r w', Q r w' → AW (mL_law, G) 856 L (r.toList ++ rest) w' (kc + mc) (ks + ms)) : AW (mL_law, G) 853 L (.int x1 :: .int x0 :: .ref q :: rest) w kc ks := a_callV [.int x0, .int x1] rest dL_law_853 vX11_file lk1212 hC hq rfl rfl hst hdp hmc k
theorem kL_law_867 {G : Nat × Nat × Nat × Option (Nat × (Nat → Int32)) × (Option Value → qW → Prop)} {L : qL} {w : qW} {kc ks : Nat} {rest : List Value} {q : Nat} {x0 : Int32} {d mc ms : Nat} {Q : Option Value → qW → Prop} (hC : CT mX10_hash d mc ms [.ref q, .int x0] w Q) (hq : qci w q = some 10) (hst : rest.length ≤ 4) (hdp : d + 1 ≤ G.1) (hmc : kc + mc ≤ G.2.1 ∧ ks + ms ≤ G.2.2.1) (k : ∀ r w', Q r w' → AW (mL_law, G) 870 L (r.toList ++ rest) w' (kc + mc) (ks + ms)) : AW (mL_law, G) 867 L (.int x0 :: .ref q :: rest) w kc ks := a_callV [.int x0] rest dL_law_867 vX10_hash lk789 hC hq rfl rfl hst hdp hmc k
theorem kL_law_876 {G : Nat × Nat × Nat × Option (Nat × (Nat → Int32)) × (Option Value → qW → Prop)} {L : qL} {w : qW} {kc ks : Nat} {rest : List Value} {q : Nat} {x0 : Int32} {d mc ms : Nat} {Q : Option Value → qW → Prop} (hC : CT mX11_hash d mc ms [.ref q, .int x0] w Q) (hq : qci w q = some 11) (hst : rest.length ≤ 4) (hdp : d + 1 ≤ G.1) (hmc : kc + mc ≤ G.2.1 ∧ ks + ms ≤ G.2.2.1) (k : ∀ r w', Q r w' → AW (mL_law, G) 879 L (r.toList ++ rest) w' (kc + mc) (ks + ms)) : AW (mL_law, G) 876 L (.int x0 :: .ref q :: rest) w kc ks := a_callV [.int x0] rest dL_law_876 vX11_hash lk1220 hC hq rfl rfl hst hdp hmc k
theorem kL_law_906 {G : Nat × Nat × Nat × Option (Nat × (Nat → Int32)) × (Option Value → qW → Prop)} {L : qL} {w : qW} {kc ks : Nat} {rest : List Value} {q : Nat} {x0 : Int64} {d mc ms : Nat} {Q : Option Value → qW → Prop} (hC : CT mX10_find d mc ms [.ref q, .long x0] w Q) (hq : qci w q = some 10) (hst : rest.length ≤ 4) (hdp : d + 1 ≤ G.1) (hmc : kc + mc ≤ G.2.1 ∧ ks + ms ≤ G.2.2.1) (k : ∀ r w', Q r w' → AW (mL_law, G) 909 L (r.toList ++ rest) w' (kc + mc) (ks + ms)) : AW (mL_law, G) 906 L (.long x0 :: .ref q :: rest) w kc ks := a_callV [.long x0] rest dL_law_906 vX10_find lk793 hC hq rfl rfl hst hdp hmc k
theorem kL_law_930 {G : Nat × Nat × Nat × Option (Nat × (Nat → Int32)) × (Option Value → qW → Prop)} {L : qL} {w : qW} {kc ks : Nat} {rest : List Value} {q : Nat} {x0 : Int64} {d mc ms : Nat} {Q : Option Value → qW → Prop} (hC : CT mX11_find d mc ms [.ref q, .long x0] w Q) (hq : qci w q = some 11) (hst : rest.length ≤ 4) (hdp : d + 1 ≤ G.1) (hmc : kc + mc ≤ G.2.1 ∧ ks + ms ≤ G.2.2.1) (k : ∀ r w', Q r w' → AW (mL_law, G) 933 L (r.toList ++ rest) w' (kc + mc) (ks + ms)) : AW (mL_law, G) 930 L (.long x0 :: .ref q :: rest) w kc ks := a_callV [.long x0] rest dL_law_930 vX11_find lk1019 hC hq rfl rfl hst hdp hmc k
theorem kL_law_949 {G : Nat × Nat × Nat × Option (Nat × (Nat → Int32)) × (Option Value → qW → Prop)} {L : qL} {w : qW} {kc ks : Nat} {rest : List Value} {q : Nat} {x0 : Int32} {x1 : Int32} {d mc ms : Nat} {Q : Option Value → qW → Prop} (hC : CT mX10_sealed d mc ms [.ref q, .int x0, .int x1] w Q) (hq : qci w q = some 10) (hst : rest.length ≤ 4) (hdp : d + 1 ≤ G.1) (hmc : kc + mc ≤ G.2.1 ∧ ks + ms ≤ G.2.2.1) (k : ∀ r w', Q r w' → AW (mL_law, G) 952 L (r.toList ++ rest) w' (kc + mc) (ks + ms)) : AW (mL_law, G) 949 L (.int x1 :: .int x0 :: .ref q :: rest) w kc ks := a_callV [.int x0, .int x1] rest dL_law_949 vX10_sealed lk797 hC hq rfl rfl hst hdp hmc k
theorem kL_law_963 {G : Nat × Nat × Nat × Option (Nat × (Nat → Int32)) × (Option Value → qW → Prop)} {L : qL} {w : qW} {kc ks : Nat} {rest : List Value} {q : Nat} {x0 : Int32} {x1 : Int32} {d mc ms : Nat} {Q : Option Value → qW → Prop} (hC : CT mX11_sealed d mc ms [.ref q, .int x0, .int x1] w Q) (hq : qci w q = some 11) (hst : rest.length ≤ 4) (hdp : d + 1 ≤ G.1) (hmc : kc + mc ≤ G.2.1 ∧ ks + ms ≤ G.2.2.1) (k : ∀ r w', Q r w' → AW (mL_law, G) 966 L (r.toList ++ rest) w' (kc + mc) (ks + ms)) : AW (mL_law, G) 963 L (.int x1 :: .int x0 :: .ref q :: rest) w kc ks := a_callV [.int x0, .int x1] rest dL_law_963 vX11_sealed lk1224 hC hq rfl rfl hst hdp hmc k
theorem kL_law_982 {G : Nat × Nat × Nat × Option (Nat × (Nat → Int32)) × (Option Value → qW → Prop)} {L : qL} {w : qW} {kc ks : Nat} {rest : List Value} {q : Nat} {x0 : Int32} {x1 : Int32} {d mc ms : Nat} {Q : Option Value → qW → Prop} (hC : CT mX10_note d mc ms [.ref q, .int x0, .int x1] w Q) (hq : qci w q = some 10) (hst : rest.length ≤ 4) (hdp : d + 1 ≤ G.1) (hmc : kc + mc ≤ G.2.1 ∧ ks + ms ≤ G.2.2.1) (k : ∀ r w', Q r w' → AW (mL_law, G) 985 L (r.toList ++ rest) w' (kc + mc) (ks + ms)) : AW (mL_law, G) 982 L (.int x1 :: .int x0 :: .ref q :: rest) w kc ks := a_callV [.int x0, .int x1] rest dL_law_982 vX10_note lk801 hC hq rfl rfl hst hdp hmc k
theorem kL_law_996 {G : Nat × Nat × Nat × Option (Nat × (Nat → Int32)) × (Option Value → qW → Prop)} {L : qL} {w : qW} {kc ks : Nat} {rest : List Value} {q : Nat} {x0 : Int32} {x1 : Int32} {d mc ms : Nat} {Q : Option Value → qW → Prop} (hC : CT mX11_note d mc ms [.ref q, .int x0, .int x1] w Q) (hq : qci w q = some 11) (hst : rest.length ≤ 4) (hdp : d + 1 ≤ G.1) (hmc : kc + mc ≤ G.2.1 ∧ ks + ms ≤ G.2.2.1) (k : ∀ r w', Q r w' → AW (mL_law, G) 999 L (r.toList ++ rest) w' (kc + mc) (ks + ms)) : AW (mL_law, G) 996 L (.int x1 :: .int x0 :: .ref q :: rest) w kc ks := a_callV [.int x0, .int x1] rest dL_law_996 vX11_note lk1228 hC hq rfl rfl hst hdp hmc k
theorem kL_law_1005 {G : Nat × Nat × Nat × Option (Nat × (Nat → Int32)) × (Option Value → qW → Prop)} {L : qL} {w : qW} {kc ks : Nat} {rest : List Value} {q : Nat}  {d mc ms : Nat} {Q : Option Value → qW → Prop} (hC : CT mX10_least d mc ms [.ref q] w Q) (hq : qci w q = some 10) (hst : rest.length ≤ 4) (hdp : d + 1 ≤ G.1) (hmc : kc + mc ≤ G.2.1 ∧ ks + ms ≤ G.2.2.1) (k : ∀ r w', Q r w' → AW (mL_law, G) 1008 L (r.toList ++ rest) w' (kc + mc) (ks + ms)) : AW (mL_law, G) 1005 L (.ref q :: rest) w kc ks := a_callV [] rest dL_law_1005 vX10_least lk805 hC hq rfl rfl hst hdp hmc k
theorem kL_law_1009 {G : Nat × Nat × Nat × Option (Nat × (Nat → Int32)) × (Option Value → qW → Prop)} {L : qL} {w : qW} {kc ks : Nat} {rest : List Value} {q : Nat}  {d mc ms : Nat} {Q : Option Value → qW → Prop} (hC : CT mX11_least d mc ms [.ref q] w Q) (hq : qci w q = some 11) (hst : rest.length ≤ 4) (hdp : d + 1 ≤ G.1) (hmc : kc + mc ≤ G.2.1 ∧ ks + ms ≤ G.2.2.1) (k : ∀ r w', Q r w' → AW (mL_law, G) 1012 L (r.toList ++ rest) w' (kc + mc) (ks + ms)) : AW (mL_law, G) 1009 L (.ref q :: rest) w kc ks := a_callV [] rest dL_law_1009 vX11_least lk1232 hC hq rfl rfl hst hdp hmc k
theorem kL_law_1018 {G : Nat × Nat × Nat × Option (Nat × (Nat → Int32)) × (Option Value → qW → Prop)} {L : qL} {w : qW} {kc ks : Nat} {rest : List Value} {q : Nat}  {d mc ms : Nat} {Q : Option Value → qW → Prop} (hC : CT mX10_makers d mc ms [.ref q] w Q) (hq : qci w q = some 10) (hst : rest.length ≤ 4) (hdp : d + 1 ≤ G.1) (hmc : kc + mc ≤ G.2.1 ∧ ks + ms ≤ G.2.2.1) (k : ∀ r w', Q r w' → AW (mL_law, G) 1021 L (r.toList ++ rest) w' (kc + mc) (ks + ms)) : AW (mL_law, G) 1018 L (.ref q :: rest) w kc ks := a_callV [] rest dL_law_1018 vX10_makers lk827 hC hq rfl rfl hst hdp hmc k
theorem kL_law_1022 {G : Nat × Nat × Nat × Option (Nat × (Nat → Int32)) × (Option Value → qW → Prop)} {L : qL} {w : qW} {kc ks : Nat} {rest : List Value} {q : Nat}  {d mc ms : Nat} {Q : Option Value → qW → Prop} (hC : CT mX11_makers d mc ms [.ref q] w Q) (hq : qci w q = some 11) (hst : rest.length ≤ 4) (hdp : d + 1 ≤ G.1) (hmc : kc + mc ≤ G.2.1 ∧ ks + ms ≤ G.2.2.1) (k : ∀ r w', Q r w' → AW (mL_law, G) 1025 L (r.toList ++ rest) w' (kc + mc) (ks + ms)) : AW (mL_law, G) 1022 L (.ref q :: rest) w kc ks := a_callV [] rest dL_law_1022 vX11_makers lk1244 hC hq rfl rfl hst hdp hmc k
theorem kL_law_1041 {G : Nat × Nat × Nat × Option (Nat × (Nat → Int32)) × (Option Value → qW → Prop)} {L : qL} {w : qW} {kc ks : Nat} {rest : List Value} {q : Nat} {x0 : Int32} {x1 : Int32} {d mc ms : Nat} {Q : Option Value → qW → Prop} (hC : CT mX10_proof d mc ms [.ref q, .int x0, .int x1] w Q) (hq : qci w q = some 10) (hst : rest.length ≤ 4) (hdp : d + 1 ≤ G.1) (hmc : kc + mc ≤ G.2.1 ∧ ks + ms ≤ G.2.2.1) (k : ∀ r w', Q r w' → AW (mL_law, G) 1044 L (r.toList ++ rest) w' (kc + mc) (ks + ms)) : AW (mL_law, G) 1041 L (.int x1 :: .int x0 :: .ref q :: rest) w kc ks := a_callV [.int x0, .int x1] rest dL_law_1041 vX10_proof lk835 hC hq rfl rfl hst hdp hmc k
theorem kL_law_1055 {G : Nat × Nat × Nat × Option (Nat × (Nat → Int32)) × (Option Value → qW → Prop)} {L : qL} {w : qW} {kc ks : Nat} {rest : List Value} {q : Nat} {x0 : Int32} {x1 : Int32} {d mc ms : Nat} {Q : Option Value → qW → Prop} (hC : CT mX11_proof d mc ms [.ref q, .int x0, .int x1] w Q) (hq : qci w q = some 11) (hst : rest.length ≤ 4) (hdp : d + 1 ≤ G.1) (hmc : kc + mc ≤ G.2.1 ∧ ks + ms ≤ G.2.2.1) (k : ∀ r w', Q r w' → AW (mL_law, G) 1058 L (r.toList ++ rest) w' (kc + mc) (ks + ms)) : AW (mL_law, G) 1055 L (.int x1 :: .int x0 :: .ref q :: rest) w kc ks := a_callV [.int x0, .int x1] rest dL_law_1055 vX11_proof lk1248 hC hq rfl rfl hst hdp hmc k
theorem kL_law_1069 {G : Nat × Nat × Nat × Option (Nat × (Nat → Int32)) × (Option Value → qW → Prop)} {L : qL} {w : qW} {kc ks : Nat} {rest : List Value} {q : Nat} {x0 : Int32} {d mc ms : Nat} {Q : Option Value → qW → Prop} (hC : CT mX10_called d mc ms [.ref q, .int x0] w Q) (hq : qci w q = some 10) (hst : rest.length ≤ 4) (hdp : d + 1 ≤ G.1) (hmc : kc + mc ≤ G.2.1 ∧ ks + ms ≤ G.2.2.1) (k : ∀ r w', Q r w' → AW (mL_law, G) 1072 L (r.toList ++ rest) w' (kc + mc) (ks + ms)) : AW (mL_law, G) 1069 L (.int x0 :: .ref q :: rest) w kc ks := a_callV [.int x0] rest dL_law_1069 vX10_called lk870 hC hq rfl rfl hst hdp hmc k
theorem kL_law_1078 {G : Nat × Nat × Nat × Option (Nat × (Nat → Int32)) × (Option Value → qW → Prop)} {L : qL} {w : qW} {kc ks : Nat} {rest : List Value} {q : Nat} {x0 : Int32} {d mc ms : Nat} {Q : Option Value → qW → Prop} (hC : CT mX11_called d mc ms [.ref q, .int x0] w Q) (hq : qci w q = some 11) (hst : rest.length ≤ 4) (hdp : d + 1 ≤ G.1) (hmc : kc + mc ≤ G.2.1 ∧ ks + ms ≤ G.2.2.1) (k : ∀ r w', Q r w' → AW (mL_law, G) 1081 L (r.toList ++ rest) w' (kc + mc) (ks + ms)) : AW (mL_law, G) 1078 L (.int x0 :: .ref q :: rest) w kc ks := a_callV [.int x0] rest dL_law_1078 vX11_called lk1256 hC hq rfl rfl hst hdp hmc k
theorem kL_law_1092 {G : Nat × Nat × Nat × Option (Nat × (Nat → Int32)) × (Option Value → qW → Prop)} {L : qL} {w : qW} {kc ks : Nat} {rest : List Value} {q : Nat} {x0 : Int32} {d mc ms : Nat} {Q : Option Value → qW → Prop} (hC : CT mX10_count d mc ms [.ref q, .int x0] w Q) (hq : qci w q = some 10) (hst : rest.length ≤ 4) (hdp : d + 1 ≤ G.1) (hmc : kc + mc ≤ G.2.1 ∧ ks + ms ≤ G.2.2.1) (k : ∀ r w', Q r w' → AW (mL_law, G) 1095 L (r.toList ++ rest) w' (kc + mc) (ks + ms)) : AW (mL_law, G) 1092 L (.int x0 :: .ref q :: rest) w kc ks := a_callV [.int x0] rest dL_law_1092 vX10_count lk874 hC hq rfl rfl hst hdp hmc k
theorem kL_law_1101 {G : Nat × Nat × Nat × Option (Nat × (Nat → Int32)) × (Option Value → qW → Prop)} {L : qL} {w : qW} {kc ks : Nat} {rest : List Value} {q : Nat} {x0 : Int32} {d mc ms : Nat} {Q : Option Value → qW → Prop} (hC : CT mX11_count d mc ms [.ref q, .int x0] w Q) (hq : qci w q = some 11) (hst : rest.length ≤ 4) (hdp : d + 1 ≤ G.1) (hmc : kc + mc ≤ G.2.1 ∧ ks + ms ≤ G.2.2.1) (k : ∀ r w', Q r w' → AW (mL_law, G) 1104 L (r.toList ++ rest) w' (kc + mc) (ks + ms)) : AW (mL_law, G) 1101 L (.int x0 :: .ref q :: rest) w kc ks := a_callV [.int x0] rest dL_law_1101 vX11_count lk1260 hC hq rfl rfl hst hdp hmc k
theorem kL_law_1120 {G : Nat × Nat × Nat × Option (Nat × (Nat → Int32)) × (Option Value → qW → Prop)} {L : qL} {w : qW} {kc ks : Nat} {rest : List Value} {q : Nat} {x0 : Int32} {x1 : Int32} {d mc ms : Nat} {Q : Option Value → qW → Prop} (hC : CT mX10_key d mc ms [.ref q, .int x0, .int x1] w Q) (hq : qci w q = some 10) (hst : rest.length ≤ 4) (hdp : d + 1 ≤ G.1) (hmc : kc + mc ≤ G.2.1 ∧ ks + ms ≤ G.2.2.1) (k : ∀ r w', Q r w' → AW (mL_law, G) 1123 L (r.toList ++ rest) w' (kc + mc) (ks + ms)) : AW (mL_law, G) 1120 L (.int x1 :: .int x0 :: .ref q :: rest) w kc ks := a_callV [.int x0, .int x1] rest dL_law_1120 vX10_key lk886 hC hq rfl rfl hst hdp hmc k
theorem kL_law_1134 {G : Nat × Nat × Nat × Option (Nat × (Nat → Int32)) × (Option Value → qW → Prop)} {L : qL} {w : qW} {kc ks : Nat} {rest : List Value} {q : Nat} {x0 : Int32} {x1 : Int32} {d mc ms : Nat} {Q : Option Value → qW → Prop} (hC : CT mX11_key d mc ms [.ref q, .int x0, .int x1] w Q) (hq : qci w q = some 11) (hst : rest.length ≤ 4) (hdp : d + 1 ≤ G.1) (hmc : kc + mc ≤ G.2.1 ∧ ks + ms ≤ G.2.2.1) (k : ∀ r w', Q r w' → AW (mL_law, G) 1137 L (r.toList ++ rest) w' (kc + mc) (ks + ms)) : AW (mL_law, G) 1134 L (.int x1 :: .int x0 :: .ref q :: rest) w kc ks := a_callV [.int x0, .int x1] rest dL_law_1134 vX11_key lk1264 hC hq rfl rfl hst hdp hmc k
