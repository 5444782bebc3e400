/-! the law: its table, over a script of L ints xs -/
theorem dL_law_16 : decode cL_law 16 = .ok (.iconst 0, 1) := by decide +kernel
theorem dL_law_17 : decode cL_law 17 = .ok (.istore_n 3, 1) := by decide +kernel
theorem dL_law_18 : decode cL_law 18 = .ok (.iload_n 3, 1) := by decide +kernel
theorem dL_law_19 : decode cL_law 19 = .ok (.aload_n 0, 1) := by decide +kernel
theorem dL_law_20 : decode cL_law 20 = .ok (.arraylength, 1) := by decide +kernel
theorem dL_law_21 : decode cL_law 21 = .ok (.iconst 5, 1) := by decide +kernel
theorem dL_law_22 : decode cL_law 22 = .ok (.isub, 1) := by decide +kernel
theorem dL_law_23 : decode cL_law 23 = .ok (.if_icmp .gt 992, 3) := by decide +kernel
theorem dL_law_26 : decode cL_law 26 = .ok (.aload_n 0, 1) := by decide +kernel
theorem dL_law_27 : decode cL_law 27 = .ok (.iload_n 3, 1) := by decide +kernel
theorem dL_law_28 : decode cL_law 28 = .ok (.iaload, 1) := by decide +kernel
theorem dL_law_29 : decode cL_law 29 = .ok (.bipush 31, 2) := by decide +kernel
theorem dL_law_31 : decode cL_law 31 = .ok (.iand, 1) := by decide +kernel
theorem dL_law_32 : decode cL_law 32 = .ok (.tableswitch 977 0 26 #[124, 147, 170, 223, 266, 309, 342, 375, 398, 411, 424, 457, 490, 533, 566, 589, 612, 655, 678, 721, 764, 807, 850, 893, 916, 940, 963], 124) := by decide +kernel
theorem dL_law_156 : decode cL_law 156 = .ok (.aload_n 1, 1) := by decide +kernel
theorem dL_law_157 : decode cL_law 157 = .ok (.aload_n 0, 1) := by decide +kernel
theorem dL_law_158 : decode cL_law 158 = .ok (.iload_n 3, 1) := by decide +kernel
theorem dL_law_159 : decode cL_law 159 = .ok (.iconst 1, 1) := by decide +kernel
theorem dL_law_160 : decode cL_law 160 = .ok (.iadd, 1) := by decide +kernel
theorem dL_law_161 : decode cL_law 161 = .ok (.iaload, 1) := by decide +kernel
theorem dL_law_162 : decode cL_law 162 = .ok (.invokevirtual 13, 3) := by decide +kernel
theorem dL_law_165 : decode cL_law 165 = .ok (.aload_n 2, 1) := by decide +kernel
theorem dL_law_166 : decode cL_law 166 = .ok (.aload_n 0, 1) := by decide +kernel
theorem dL_law_167 : decode cL_law 167 = .ok (.iload_n 3, 1) := by decide +kernel
theorem dL_law_168 : decode cL_law 168 = .ok (.iconst 1, 1) := by decide +kernel
theorem dL_law_169 : decode cL_law 169 = .ok (.iadd, 1) := by decide +kernel
theorem dL_law_170 : decode cL_law 170 = .ok (.iaload, 1) := by decide +kernel
theorem dL_law_171 : decode cL_law 171 = .ok (.invokevirtual 17, 3) := by decide +kernel
theorem dL_law_174 : decode cL_law 174 = .ok (.if_icmp .eq 835, 3) := by decide +kernel
theorem dL_law_177 : decode cL_law 177 = .ok (.iconst 0, 1) := by decide +kernel
theorem dL_law_178 : decode cL_law 178 = .ok (.ireturn, 1) := by decide +kernel
theorem dL_law_179 : decode cL_law 179 = .ok (.aload_n 1, 1) := by decide +kernel
theorem dL_law_180 : decode cL_law 180 = .ok (.aload_n 0, 1) := by decide +kernel
theorem dL_law_181 : decode cL_law 181 = .ok (.iload_n 3, 1) := by decide +kernel
theorem dL_law_182 : decode cL_law 182 = .ok (.iconst 1, 1) := by decide +kernel
theorem dL_law_183 : decode cL_law 183 = .ok (.iadd, 1) := by decide +kernel
theorem dL_law_184 : decode cL_law 184 = .ok (.iaload, 1) := by decide +kernel
theorem dL_law_185 : decode cL_law 185 = .ok (.invokevirtual 18, 3) := by decide +kernel
theorem dL_law_188 : decode cL_law 188 = .ok (.aload_n 2, 1) := by decide +kernel
theorem dL_law_189 : decode cL_law 189 = .ok (.aload_n 0, 1) := by decide +kernel
theorem dL_law_190 : decode cL_law 190 = .ok (.iload_n 3, 1) := by decide +kernel
theorem dL_law_191 : decode cL_law 191 = .ok (.iconst 1, 1) := by decide +kernel
theorem dL_law_192 : decode cL_law 192 = .ok (.iadd, 1) := by decide +kernel
theorem dL_law_193 : decode cL_law 193 = .ok (.iaload, 1) := by decide +kernel
theorem dL_law_194 : decode cL_law 194 = .ok (.invokevirtual 21, 3) := by decide +kernel
theorem dL_law_197 : decode cL_law 197 = .ok (.if_icmp .eq 812, 3) := by decide +kernel
theorem dL_law_200 : decode cL_law 200 = .ok (.iconst 0, 1) := by decide +kernel
theorem dL_law_201 : decode cL_law 201 = .ok (.ireturn, 1) := by decide +kernel
theorem dL_law_202 : decode cL_law 202 = .ok (.aload_n 1, 1) := by decide +kernel
theorem dL_law_203 : decode cL_law 203 = .ok (.aload_n 0, 1) := by decide +kernel
theorem dL_law_204 : decode cL_law 204 = .ok (.iload_n 3, 1) := by decide +kernel
theorem dL_law_205 : decode cL_law 205 = .ok (.iconst 1, 1) := by decide +kernel
theorem dL_law_206 : decode cL_law 206 = .ok (.iadd, 1) := by decide +kernel
theorem dL_law_207 : decode cL_law 207 = .ok (.iaload, 1) := by decide +kernel
theorem dL_law_208 : decode cL_law 208 = .ok (.aload_n 0, 1) := by decide +kernel
theorem dL_law_209 : decode cL_law 209 = .ok (.iload_n 3, 1) := by decide +kernel
theorem dL_law_210 : decode cL_law 210 = .ok (.iconst 2, 1) := by decide +kernel
theorem dL_law_211 : decode cL_law 211 = .ok (.iadd, 1) := by decide +kernel
theorem dL_law_212 : decode cL_law 212 = .ok (.iaload, 1) := by decide +kernel
theorem dL_law_213 : decode cL_law 213 = .ok (.aload_n 0, 1) := by decide +kernel
theorem dL_law_214 : decode cL_law 214 = .ok (.iload_n 3, 1) := by decide +kernel
theorem dL_law_215 : decode cL_law 215 = .ok (.iconst 3, 1) := by decide +kernel
theorem dL_law_216 : decode cL_law 216 = .ok (.iadd, 1) := by decide +kernel
theorem dL_law_217 : decode cL_law 217 = .ok (.iaload, 1) := by decide +kernel
theorem dL_law_218 : decode cL_law 218 = .ok (.aload_n 0, 1) := by decide +kernel
theorem dL_law_219 : decode cL_law 219 = .ok (.iload_n 3, 1) := by decide +kernel
theorem dL_law_220 : decode cL_law 220 = .ok (.iconst 4, 1) := by decide +kernel
theorem dL_law_221 : decode cL_law 221 = .ok (.iadd, 1) := by decide +kernel
theorem dL_law_222 : decode cL_law 222 = .ok (.iaload, 1) := by decide +kernel
theorem dL_law_223 : decode cL_law 223 = .ok (.invokevirtual 22, 3) := by decide +kernel
theorem dL_law_226 : decode cL_law 226 = .ok (.aload_n 2, 1) := by decide +kernel
theorem dL_law_227 : decode cL_law 227 = .ok (.aload_n 0, 1) := by decide +kernel
theorem dL_law_228 : decode cL_law 228 = .ok (.iload_n 3, 1) := by decide +kernel
theorem dL_law_229 : decode cL_law 229 = .ok (.iconst 1, 1) := by decide +kernel
theorem dL_law_230 : decode cL_law 230 = .ok (.iadd, 1) := by decide +kernel
theorem dL_law_231 : decode cL_law 231 = .ok (.iaload, 1) := by decide +kernel
theorem dL_law_232 : decode cL_law 232 = .ok (.aload_n 0, 1) := by decide +kernel
theorem dL_law_233 : decode cL_law 233 = .ok (.iload_n 3, 1) := by decide +kernel
theorem dL_law_234 : decode cL_law 234 = .ok (.iconst 2, 1) := by decide +kernel
theorem dL_law_235 : decode cL_law 235 = .ok (.iadd, 1) := by decide +kernel
theorem dL_law_236 : decode cL_law 236 = .ok (.iaload, 1) := by decide +kernel
theorem dL_law_237 : decode cL_law 237 = .ok (.aload_n 0, 1) := by decide +kernel
theorem dL_law_238 : decode cL_law 238 = .ok (.iload_n 3, 1) := by decide +kernel
theorem dL_law_239 : decode cL_law 239 = .ok (.iconst 3, 1) := by decide +kernel
theorem dL_law_240 : decode cL_law 240 = .ok (.iadd, 1) := by decide +kernel
theorem dL_law_241 : decode cL_law 241 = .ok (.iaload, 1) := by decide +kernel
theorem dL_law_242 : decode cL_law 242 = .ok (.aload_n 0, 1) := by decide +kernel
theorem dL_law_243 : decode cL_law 243 = .ok (.iload_n 3, 1) := by decide +kernel
theorem dL_law_244 : decode cL_law 244 = .ok (.iconst 4, 1) := by decide +kernel
theorem dL_law_245 : decode cL_law 245 = .ok (.iadd, 1) := by decide +kernel
theorem dL_law_246 : decode cL_law 246 = .ok (.iaload, 1) := by decide +kernel
theorem dL_law_247 : decode cL_law 247 = .ok (.invokevirtual 26, 3) := by decide +kernel
theorem dL_law_250 : decode cL_law 250 = .ok (.if_icmp .eq 759, 3) := by decide +kernel
theorem dL_law_253 : decode cL_law 253 = .ok (.iconst 0, 1) := by decide +kernel
theorem dL_law_254 : decode cL_law 254 = .ok (.ireturn, 1) := by decide +kernel
theorem dL_law_255 : decode cL_law 255 = .ok (.aload_n 1, 1) := by decide +kernel
theorem dL_law_256 : decode cL_law 256 = .ok (.aload_n 0, 1) := by decide +kernel
theorem dL_law_257 : decode cL_law 257 = .ok (.iload_n 3, 1) := by decide +kernel
theorem dL_law_258 : decode cL_law 258 = .ok (.iconst 1, 1) := by decide +kernel
theorem dL_law_259 : decode cL_law 259 = .ok (.iadd, 1) := by decide +kernel
theorem dL_law_260 : decode cL_law 260 = .ok (.iaload, 1) := by decide +kernel
theorem dL_law_261 : decode cL_law 261 = .ok (.aload_n 0, 1) := by decide +kernel
theorem dL_law_262 : decode cL_law 262 = .ok (.iload_n 3, 1) := by decide +kernel
theorem dL_law_263 : decode cL_law 263 = .ok (.iconst 2, 1) := by decide +kernel
theorem dL_law_264 : decode cL_law 264 = .ok (.iadd, 1) := by decide +kernel
theorem dL_law_265 : decode cL_law 265 = .ok (.iaload, 1) := by decide +kernel
theorem dL_law_266 : decode cL_law 266 = .ok (.aload_n 0, 1) := by decide +kernel
theorem dL_law_267 : decode cL_law 267 = .ok (.iload_n 3, 1) := by decide +kernel
theorem dL_law_268 : decode cL_law 268 = .ok (.iconst 3, 1) := by decide +kernel
theorem dL_law_269 : decode cL_law 269 = .ok (.iadd, 1) := by decide +kernel
theorem dL_law_270 : decode cL_law 270 = .ok (.iaload, 1) := by decide +kernel
theorem dL_law_271 : decode cL_law 271 = .ok (.invokevirtual 27, 3) := by decide +kernel
theorem dL_law_274 : decode cL_law 274 = .ok (.aload_n 2, 1) := by decide +kernel
theorem dL_law_275 : decode cL_law 275 = .ok (.aload_n 0, 1) := by decide +kernel
theorem dL_law_276 : decode cL_law 276 = .ok (.iload_n 3, 1) := by decide +kernel
theorem dL_law_277 : decode cL_law 277 = .ok (.iconst 1, 1) := by decide +kernel
theorem dL_law_278 : decode cL_law 278 = .ok (.iadd, 1) := by decide +kernel
theorem dL_law_279 : decode cL_law 279 = .ok (.iaload, 1) := by decide +kernel
theorem dL_law_280 : decode cL_law 280 = .ok (.aload_n 0, 1) := by decide +kernel
theorem dL_law_281 : decode cL_law 281 = .ok (.iload_n 3, 1) := by decide +kernel
theorem dL_law_282 : decode cL_law 282 = .ok (.iconst 2, 1) := by decide +kernel
theorem dL_law_283 : decode cL_law 283 = .ok (.iadd, 1) := by decide +kernel
theorem dL_law_284 : decode cL_law 284 = .ok (.iaload, 1) := by decide +kernel
theorem dL_law_285 : decode cL_law 285 = .ok (.aload_n 0, 1) := by decide +kernel
theorem dL_law_286 : decode cL_law 286 = .ok (.iload_n 3, 1) := by decide +kernel
theorem dL_law_287 : decode cL_law 287 = .ok (.iconst 3, 1) := by decide +kernel
theorem dL_law_288 : decode cL_law 288 = .ok (.iadd, 1) := by decide +kernel
theorem dL_law_289 : decode cL_law 289 = .ok (.iaload, 1) := by decide +kernel
theorem dL_law_290 : decode cL_law 290 = .ok (.invokevirtual 31, 3) := by decide +kernel
theorem dL_law_293 : decode cL_law 293 = .ok (.if_icmp .eq 716, 3) := by decide +kernel
theorem dL_law_296 : decode cL_law 296 = .ok (.iconst 0, 1) := by decide +kernel
theorem dL_law_297 : decode cL_law 297 = .ok (.ireturn, 1) := by decide +kernel
theorem dL_law_298 : decode cL_law 298 = .ok (.aload_n 1, 1) := by decide +kernel
theorem dL_law_299 : decode cL_law 299 = .ok (.aload_n 0, 1) := by decide +kernel
theorem dL_law_300 : decode cL_law 300 = .ok (.iload_n 3, 1) := by decide +kernel
theorem dL_law_301 : decode cL_law 301 = .ok (.iconst 1, 1) := by decide +kernel
theorem dL_law_302 : decode cL_law 302 = .ok (.iadd, 1) := by decide +kernel
theorem dL_law_303 : decode cL_law 303 = .ok (.iaload, 1) := by decide +kernel
theorem dL_law_304 : decode cL_law 304 = .ok (.aload_n 0, 1) := by decide +kernel
theorem dL_law_305 : decode cL_law 305 = .ok (.iload_n 3, 1) := by decide +kernel
theorem dL_law_306 : decode cL_law 306 = .ok (.iconst 2, 1) := by decide +kernel
theorem dL_law_307 : decode cL_law 307 = .ok (.iadd, 1) := by decide +kernel
theorem dL_law_308 : decode cL_law 308 = .ok (.iaload, 1) := by decide +kernel
theorem dL_law_309 : decode cL_law 309 = .ok (.aload_n 0, 1) := by decide +kernel
theorem dL_law_310 : decode cL_law 310 = .ok (.iload_n 3, 1) := by decide +kernel
theorem dL_law_311 : decode cL_law 311 = .ok (.iconst 3, 1) := by decide +kernel
theorem dL_law_312 : decode cL_law 312 = .ok (.iadd, 1) := by decide +kernel
theorem dL_law_313 : decode cL_law 313 = .ok (.iaload, 1) := by decide +kernel
theorem dL_law_314 : decode cL_law 314 = .ok (.invokevirtual 32, 3) := by decide +kernel
theorem dL_law_317 : decode cL_law 317 = .ok (.aload_n 2, 1) := by decide +kernel
theorem dL_law_318 : decode cL_law 318 = .ok (.aload_n 0, 1) := by decide +kernel
theorem dL_law_319 : decode cL_law 319 = .ok (.iload_n 3, 1) := by decide +kernel
theorem dL_law_320 : decode cL_law 320 = .ok (.iconst 1, 1) := by decide +kernel
theorem dL_law_321 : decode cL_law 321 = .ok (.iadd, 1) := by decide +kernel
theorem dL_law_322 : decode cL_law 322 = .ok (.iaload, 1) := by decide +kernel
theorem dL_law_323 : decode cL_law 323 = .ok (.aload_n 0, 1) := by decide +kernel
theorem dL_law_324 : decode cL_law 324 = .ok (.iload_n 3, 1) := by decide +kernel
theorem dL_law_325 : decode cL_law 325 = .ok (.iconst 2, 1) := by decide +kernel
theorem dL_law_326 : decode cL_law 326 = .ok (.iadd, 1) := by decide +kernel
theorem dL_law_327 : decode cL_law 327 = .ok (.iaload, 1) := by decide +kernel
theorem dL_law_328 : decode cL_law 328 = .ok (.aload_n 0, 1) := by decide +kernel
theorem dL_law_329 : decode cL_law 329 = .ok (.iload_n 3, 1) := by decide +kernel
theorem dL_law_330 : decode cL_law 330 = .ok (.iconst 3, 1) := by decide +kernel
theorem dL_law_331 : decode cL_law 331 = .ok (.iadd, 1) := by decide +kernel
theorem dL_law_332 : decode cL_law 332 = .ok (.iaload, 1) := by decide +kernel
theorem dL_law_333 : decode cL_law 333 = .ok (.invokevirtual 35, 3) := by decide +kernel
theorem dL_law_336 : decode cL_law 336 = .ok (.if_icmp .eq 673, 3) := by decide +kernel
theorem dL_law_339 : decode cL_law 339 = .ok (.iconst 0, 1) := by decide +kernel
theorem dL_law_340 : decode cL_law 340 = .ok (.ireturn, 1) := by decide +kernel
theorem dL_law_341 : decode cL_law 341 = .ok (.aload_n 1, 1) := by decide +kernel
theorem dL_law_342 : decode cL_law 342 = .ok (.aload_n 0, 1) := by decide +kernel
theorem dL_law_343 : decode cL_law 343 = .ok (.iload_n 3, 1) := by decide +kernel
theorem dL_law_344 : decode cL_law 344 = .ok (.iconst 1, 1) := by decide +kernel
theorem dL_law_345 : decode cL_law 345 = .ok (.iadd, 1) := by decide +kernel
theorem dL_law_346 : decode cL_law 346 = .ok (.iaload, 1) := by decide +kernel
theorem dL_law_347 : decode cL_law 347 = .ok (.aload_n 0, 1) := by decide +kernel
theorem dL_law_348 : decode cL_law 348 = .ok (.iload_n 3, 1) := by decide +kernel
theorem dL_law_349 : decode cL_law 349 = .ok (.iconst 2, 1) := by decide +kernel
theorem dL_law_350 : decode cL_law 350 = .ok (.iadd, 1) := by decide +kernel
theorem dL_law_351 : decode cL_law 351 = .ok (.iaload, 1) := by decide +kernel
theorem dL_law_352 : decode cL_law 352 = .ok (.invokevirtual 36, 3) := by decide +kernel
theorem dL_law_355 : decode cL_law 355 = .ok (.aload_n 2, 1) := by decide +kernel
theorem dL_law_356 : decode cL_law 356 = .ok (.aload_n 0, 1) := by decide +kernel
theorem dL_law_357 : decode cL_law 357 = .ok (.iload_n 3, 1) := by decide +kernel
theorem dL_law_358 : decode cL_law 358 = .ok (.iconst 1, 1) := by decide +kernel
theorem dL_law_359 : decode cL_law 359 = .ok (.iadd, 1) := by decide +kernel
theorem dL_law_360 : decode cL_law 360 = .ok (.iaload, 1) := by decide +kernel
theorem dL_law_361 : decode cL_law 361 = .ok (.aload_n 0, 1) := by decide +kernel
theorem dL_law_362 : decode cL_law 362 = .ok (.iload_n 3, 1) := by decide +kernel
theorem dL_law_363 : decode cL_law 363 = .ok (.iconst 2, 1) := by decide +kernel
theorem dL_law_364 : decode cL_law 364 = .ok (.iadd, 1) := by decide +kernel
theorem dL_law_365 : decode cL_law 365 = .ok (.iaload, 1) := by decide +kernel
theorem dL_law_366 : decode cL_law 366 = .ok (.invokevirtual 40, 3) := by decide +kernel
theorem dL_law_369 : decode cL_law 369 = .ok (.if_icmp .eq 640, 3) := by decide +kernel
theorem dL_law_372 : decode cL_law 372 = .ok (.iconst 0, 1) := by decide +kernel
theorem dL_law_373 : decode cL_law 373 = .ok (.ireturn, 1) := by decide +kernel
theorem dL_law_374 : decode cL_law 374 = .ok (.aload_n 1, 1) := by decide +kernel
theorem dL_law_375 : decode cL_law 375 = .ok (.aload_n 0, 1) := by decide +kernel
theorem dL_law_376 : decode cL_law 376 = .ok (.iload_n 3, 1) := by decide +kernel
theorem dL_law_377 : decode cL_law 377 = .ok (.iconst 1, 1) := by decide +kernel
theorem dL_law_378 : decode cL_law 378 = .ok (.iadd, 1) := by decide +kernel
theorem dL_law_379 : decode cL_law 379 = .ok (.iaload, 1) := by decide +kernel
theorem dL_law_380 : decode cL_law 380 = .ok (.aload_n 0, 1) := by decide +kernel
theorem dL_law_381 : decode cL_law 381 = .ok (.iload_n 3, 1) := by decide +kernel
theorem dL_law_382 : decode cL_law 382 = .ok (.iconst 2, 1) := by decide +kernel
theorem dL_law_383 : decode cL_law 383 = .ok (.iadd, 1) := by decide +kernel
theorem dL_law_384 : decode cL_law 384 = .ok (.iaload, 1) := by decide +kernel
theorem dL_law_385 : decode cL_law 385 = .ok (.invokevirtual 41, 3) := by decide +kernel
theorem dL_law_388 : decode cL_law 388 = .ok (.aload_n 2, 1) := by decide +kernel
theorem dL_law_389 : decode cL_law 389 = .ok (.aload_n 0, 1) := by decide +kernel
theorem dL_law_390 : decode cL_law 390 = .ok (.iload_n 3, 1) := by decide +kernel
theorem dL_law_391 : decode cL_law 391 = .ok (.iconst 1, 1) := by decide +kernel
theorem dL_law_392 : decode cL_law 392 = .ok (.iadd, 1) := by decide +kernel
theorem dL_law_393 : decode cL_law 393 = .ok (.iaload, 1) := by decide +kernel
theorem dL_law_394 : decode cL_law 394 = .ok (.aload_n 0, 1) := by decide +kernel
theorem dL_law_395 : decode cL_law 395 = .ok (.iload_n 3, 1) := by decide +kernel
theorem dL_law_396 : decode cL_law 396 = .ok (.iconst 2, 1) := by decide +kernel
theorem dL_law_397 : decode cL_law 397 = .ok (.iadd, 1) := by decide +kernel
theorem dL_law_398 : decode cL_law 398 = .ok (.iaload, 1) := by decide +kernel
theorem dL_law_399 : decode cL_law 399 = .ok (.invokevirtual 44, 3) := by decide +kernel
theorem dL_law_402 : decode cL_law 402 = .ok (.if_icmp .eq 607, 3) := by decide +kernel
theorem dL_law_405 : decode cL_law 405 = .ok (.iconst 0, 1) := by decide +kernel
theorem dL_law_406 : decode cL_law 406 = .ok (.ireturn, 1) := by decide +kernel
theorem dL_law_407 : decode cL_law 407 = .ok (.aload_n 1, 1) := by decide +kernel
theorem dL_law_408 : decode cL_law 408 = .ok (.aload_n 0, 1) := by decide +kernel
theorem dL_law_409 : decode cL_law 409 = .ok (.iload_n 3, 1) := by decide +kernel
theorem dL_law_410 : decode cL_law 410 = .ok (.iconst 1, 1) := by decide +kernel
theorem dL_law_411 : decode cL_law 411 = .ok (.iadd, 1) := by decide +kernel
theorem dL_law_412 : decode cL_law 412 = .ok (.iaload, 1) := by decide +kernel
theorem dL_law_413 : decode cL_law 413 = .ok (.invokevirtual 45, 3) := by decide +kernel
theorem dL_law_416 : decode cL_law 416 = .ok (.aload_n 2, 1) := by decide +kernel
theorem dL_law_417 : decode cL_law 417 = .ok (.aload_n 0, 1) := by decide +kernel
theorem dL_law_418 : decode cL_law 418 = .ok (.iload_n 3, 1) := by decide +kernel
theorem dL_law_419 : decode cL_law 419 = .ok (.iconst 1, 1) := by decide +kernel
theorem dL_law_420 : decode cL_law 420 = .ok (.iadd, 1) := by decide +kernel
theorem dL_law_421 : decode cL_law 421 = .ok (.iaload, 1) := by decide +kernel
theorem dL_law_422 : decode cL_law 422 = .ok (.invokevirtual 48, 3) := by decide +kernel
theorem dL_law_425 : decode cL_law 425 = .ok (.if_icmp .eq 584, 3) := by decide +kernel
theorem dL_law_428 : decode cL_law 428 = .ok (.iconst 0, 1) := by decide +kernel
theorem dL_law_429 : decode cL_law 429 = .ok (.ireturn, 1) := by decide +kernel
theorem dL_law_430 : decode cL_law 430 = .ok (.aload_n 1, 1) := by decide +kernel
theorem dL_law_431 : decode cL_law 431 = .ok (.invokevirtual 49, 3) := by decide +kernel
theorem dL_law_434 : decode cL_law 434 = .ok (.aload_n 2, 1) := by decide +kernel
theorem dL_law_435 : decode cL_law 435 = .ok (.invokevirtual 53, 3) := by decide +kernel
theorem dL_law_438 : decode cL_law 438 = .ok (.if_icmp .eq 571, 3) := by decide +kernel
theorem dL_law_441 : decode cL_law 441 = .ok (.iconst 0, 1) := by decide +kernel
theorem dL_law_442 : decode cL_law 442 = .ok (.ireturn, 1) := by decide +kernel
theorem dL_law_443 : decode cL_law 443 = .ok (.aload_n 1, 1) := by decide +kernel
theorem dL_law_444 : decode cL_law 444 = .ok (.invokevirtual 54, 3) := by decide +kernel
theorem dL_law_447 : decode cL_law 447 = .ok (.aload_n 2, 1) := by decide +kernel
theorem dL_law_448 : decode cL_law 448 = .ok (.invokevirtual 57, 3) := by decide +kernel
theorem dL_law_451 : decode cL_law 451 = .ok (.if_icmp .eq 558, 3) := by decide +kernel
theorem dL_law_454 : decode cL_law 454 = .ok (.iconst 0, 1) := by decide +kernel
theorem dL_law_455 : decode cL_law 455 = .ok (.ireturn, 1) := by decide +kernel
theorem dL_law_456 : decode cL_law 456 = .ok (.aload_n 1, 1) := by decide +kernel
theorem dL_law_457 : decode cL_law 457 = .ok (.aload_n 0, 1) := by decide +kernel
theorem dL_law_458 : decode cL_law 458 = .ok (.iload_n 3, 1) := by decide +kernel
theorem dL_law_459 : decode cL_law 459 = .ok (.iconst 1, 1) := by decide +kernel
theorem dL_law_460 : decode cL_law 460 = .ok (.iadd, 1) := by decide +kernel
theorem dL_law_461 : decode cL_law 461 = .ok (.iaload, 1) := by decide +kernel
theorem dL_law_462 : decode cL_law 462 = .ok (.aload_n 0, 1) := by decide +kernel
theorem dL_law_463 : decode cL_law 463 = .ok (.iload_n 3, 1) := by decide +kernel
theorem dL_law_464 : decode cL_law 464 = .ok (.iconst 2, 1) := by decide +kernel
theorem dL_law_465 : decode cL_law 465 = .ok (.iadd, 1) := by decide +kernel
theorem dL_law_466 : decode cL_law 466 = .ok (.iaload, 1) := by decide +kernel
theorem dL_law_467 : decode cL_law 467 = .ok (.invokevirtual 58, 3) := by decide +kernel
theorem dL_law_470 : decode cL_law 470 = .ok (.aload_n 2, 1) := by decide +kernel
theorem dL_law_471 : decode cL_law 471 = .ok (.aload_n 0, 1) := by decide +kernel
theorem dL_law_472 : decode cL_law 472 = .ok (.iload_n 3, 1) := by decide +kernel
theorem dL_law_473 : decode cL_law 473 = .ok (.iconst 1, 1) := by decide +kernel
theorem dL_law_474 : decode cL_law 474 = .ok (.iadd, 1) := by decide +kernel
theorem dL_law_475 : decode cL_law 475 = .ok (.iaload, 1) := by decide +kernel
theorem dL_law_476 : decode cL_law 476 = .ok (.aload_n 0, 1) := by decide +kernel
theorem dL_law_477 : decode cL_law 477 = .ok (.iload_n 3, 1) := by decide +kernel
theorem dL_law_478 : decode cL_law 478 = .ok (.iconst 2, 1) := by decide +kernel
theorem dL_law_479 : decode cL_law 479 = .ok (.iadd, 1) := by decide +kernel
theorem dL_law_480 : decode cL_law 480 = .ok (.iaload, 1) := by decide +kernel
theorem dL_law_481 : decode cL_law 481 = .ok (.invokevirtual 61, 3) := by decide +kernel
theorem dL_law_484 : decode cL_law 484 = .ok (.if_icmp .eq 525, 3) := by decide +kernel
theorem dL_law_487 : decode cL_law 487 = .ok (.iconst 0, 1) := by decide +kernel
theorem dL_law_488 : decode cL_law 488 = .ok (.ireturn, 1) := by decide +kernel
theorem dL_law_489 : decode cL_law 489 = .ok (.aload_n 1, 1) := by decide +kernel
theorem dL_law_490 : decode cL_law 490 = .ok (.aload_n 0, 1) := by decide +kernel
theorem dL_law_491 : decode cL_law 491 = .ok (.iload_n 3, 1) := by decide +kernel
theorem dL_law_492 : decode cL_law 492 = .ok (.iconst 1, 1) := by decide +kernel
theorem dL_law_493 : decode cL_law 493 = .ok (.iadd, 1) := by decide +kernel
theorem dL_law_494 : decode cL_law 494 = .ok (.iaload, 1) := by decide +kernel
theorem dL_law_495 : decode cL_law 495 = .ok (.aload_n 0, 1) := by decide +kernel
theorem dL_law_496 : decode cL_law 496 = .ok (.iload_n 3, 1) := by decide +kernel
theorem dL_law_497 : decode cL_law 497 = .ok (.iconst 2, 1) := by decide +kernel
theorem dL_law_498 : decode cL_law 498 = .ok (.iadd, 1) := by decide +kernel
theorem dL_law_499 : decode cL_law 499 = .ok (.iaload, 1) := by decide +kernel
theorem dL_law_500 : decode cL_law 500 = .ok (.invokevirtual 62, 3) := by decide +kernel
theorem dL_law_503 : decode cL_law 503 = .ok (.aload_n 2, 1) := by decide +kernel
theorem dL_law_504 : decode cL_law 504 = .ok (.aload_n 0, 1) := by decide +kernel
theorem dL_law_505 : decode cL_law 505 = .ok (.iload_n 3, 1) := by decide +kernel
theorem dL_law_506 : decode cL_law 506 = .ok (.iconst 1, 1) := by decide +kernel
theorem dL_law_507 : decode cL_law 507 = .ok (.iadd, 1) := by decide +kernel
theorem dL_law_508 : decode cL_law 508 = .ok (.iaload, 1) := by decide +kernel
theorem dL_law_509 : decode cL_law 509 = .ok (.aload_n 0, 1) := by decide +kernel
theorem dL_law_510 : decode cL_law 510 = .ok (.iload_n 3, 1) := by decide +kernel
theorem dL_law_511 : decode cL_law 511 = .ok (.iconst 2, 1) := by decide +kernel
theorem dL_law_512 : decode cL_law 512 = .ok (.iadd, 1) := by decide +kernel
theorem dL_law_513 : decode cL_law 513 = .ok (.iaload, 1) := by decide +kernel
theorem dL_law_514 : decode cL_law 514 = .ok (.invokevirtual 65, 3) := by decide +kernel
theorem dL_law_517 : decode cL_law 517 = .ok (.if_icmp .eq 492, 3) := by decide +kernel
theorem dL_law_520 : decode cL_law 520 = .ok (.iconst 0, 1) := by decide +kernel
theorem dL_law_521 : decode cL_law 521 = .ok (.ireturn, 1) := by decide +kernel
theorem dL_law_522 : decode cL_law 522 = .ok (.aload_n 1, 1) := by decide +kernel
theorem dL_law_523 : decode cL_law 523 = .ok (.aload_n 0, 1) := by decide +kernel
theorem dL_law_524 : decode cL_law 524 = .ok (.iload_n 3, 1) := by decide +kernel
theorem dL_law_525 : decode cL_law 525 = .ok (.iconst 1, 1) := by decide +kernel
theorem dL_law_526 : decode cL_law 526 = .ok (.iadd, 1) := by decide +kernel
theorem dL_law_527 : decode cL_law 527 = .ok (.iaload, 1) := by decide +kernel
theorem dL_law_528 : decode cL_law 528 = .ok (.aload_n 0, 1) := by decide +kernel
theorem dL_law_529 : decode cL_law 529 = .ok (.iload_n 3, 1) := by decide +kernel
theorem dL_law_530 : decode cL_law 530 = .ok (.iconst 2, 1) := by decide +kernel
theorem dL_law_531 : decode cL_law 531 = .ok (.iadd, 1) := by decide +kernel
theorem dL_law_532 : decode cL_law 532 = .ok (.iaload, 1) := by decide +kernel
theorem dL_law_533 : decode cL_law 533 = .ok (.aload_n 0, 1) := by decide +kernel
theorem dL_law_534 : decode cL_law 534 = .ok (.iload_n 3, 1) := by decide +kernel
theorem dL_law_535 : decode cL_law 535 = .ok (.iconst 3, 1) := by decide +kernel
theorem dL_law_536 : decode cL_law 536 = .ok (.iadd, 1) := by decide +kernel
theorem dL_law_537 : decode cL_law 537 = .ok (.iaload, 1) := by decide +kernel
theorem dL_law_538 : decode cL_law 538 = .ok (.invokevirtual 66, 3) := by decide +kernel
theorem dL_law_541 : decode cL_law 541 = .ok (.aload_n 2, 1) := by decide +kernel
theorem dL_law_542 : decode cL_law 542 = .ok (.aload_n 0, 1) := by decide +kernel
theorem dL_law_543 : decode cL_law 543 = .ok (.iload_n 3, 1) := by decide +kernel
theorem dL_law_544 : decode cL_law 544 = .ok (.iconst 1, 1) := by decide +kernel
theorem dL_law_545 : decode cL_law 545 = .ok (.iadd, 1) := by decide +kernel
theorem dL_law_546 : decode cL_law 546 = .ok (.iaload, 1) := by decide +kernel
theorem dL_law_547 : decode cL_law 547 = .ok (.aload_n 0, 1) := by decide +kernel
theorem dL_law_548 : decode cL_law 548 = .ok (.iload_n 3, 1) := by decide +kernel
theorem dL_law_549 : decode cL_law 549 = .ok (.iconst 2, 1) := by decide +kernel
theorem dL_law_550 : decode cL_law 550 = .ok (.iadd, 1) := by decide +kernel
theorem dL_law_551 : decode cL_law 551 = .ok (.iaload, 1) := by decide +kernel
theorem dL_law_552 : decode cL_law 552 = .ok (.aload_n 0, 1) := by decide +kernel
theorem dL_law_553 : decode cL_law 553 = .ok (.iload_n 3, 1) := by decide +kernel
theorem dL_law_554 : decode cL_law 554 = .ok (.iconst 3, 1) := by decide +kernel
theorem dL_law_555 : decode cL_law 555 = .ok (.iadd, 1) := by decide +kernel
theorem dL_law_556 : decode cL_law 556 = .ok (.iaload, 1) := by decide +kernel
theorem dL_law_557 : decode cL_law 557 = .ok (.invokevirtual 69, 3) := by decide +kernel
theorem dL_law_560 : decode cL_law 560 = .ok (.if_icmp .eq 449, 3) := by decide +kernel
theorem dL_law_563 : decode cL_law 563 = .ok (.iconst 0, 1) := by decide +kernel
theorem dL_law_564 : decode cL_law 564 = .ok (.ireturn, 1) := by decide +kernel
theorem dL_law_565 : decode cL_law 565 = .ok (.aload_n 1, 1) := by decide +kernel
theorem dL_law_566 : decode cL_law 566 = .ok (.aload_n 0, 1) := by decide +kernel
theorem dL_law_567 : decode cL_law 567 = .ok (.iload_n 3, 1) := by decide +kernel
theorem dL_law_568 : decode cL_law 568 = .ok (.iconst 1, 1) := by decide +kernel
theorem dL_law_569 : decode cL_law 569 = .ok (.iadd, 1) := by decide +kernel
theorem dL_law_570 : decode cL_law 570 = .ok (.iaload, 1) := by decide +kernel
theorem dL_law_571 : decode cL_law 571 = .ok (.aload_n 0, 1) := by decide +kernel
theorem dL_law_572 : decode cL_law 572 = .ok (.iload_n 3, 1) := by decide +kernel
theorem dL_law_573 : decode cL_law 573 = .ok (.iconst 2, 1) := by decide +kernel
theorem dL_law_574 : decode cL_law 574 = .ok (.iadd, 1) := by decide +kernel
theorem dL_law_575 : decode cL_law 575 = .ok (.iaload, 1) := by decide +kernel
theorem dL_law_576 : decode cL_law 576 = .ok (.invokevirtual 70, 3) := by decide +kernel
theorem dL_law_579 : decode cL_law 579 = .ok (.aload_n 2, 1) := by decide +kernel
theorem dL_law_580 : decode cL_law 580 = .ok (.aload_n 0, 1) := by decide +kernel
theorem dL_law_581 : decode cL_law 581 = .ok (.iload_n 3, 1) := by decide +kernel
theorem dL_law_582 : decode cL_law 582 = .ok (.iconst 1, 1) := by decide +kernel
theorem dL_law_583 : decode cL_law 583 = .ok (.iadd, 1) := by decide +kernel
theorem dL_law_584 : decode cL_law 584 = .ok (.iaload, 1) := by decide +kernel
theorem dL_law_585 : decode cL_law 585 = .ok (.aload_n 0, 1) := by decide +kernel
theorem dL_law_586 : decode cL_law 586 = .ok (.iload_n 3, 1) := by decide +kernel
theorem dL_law_587 : decode cL_law 587 = .ok (.iconst 2, 1) := by decide +kernel
theorem dL_law_588 : decode cL_law 588 = .ok (.iadd, 1) := by decide +kernel
theorem dL_law_589 : decode cL_law 589 = .ok (.iaload, 1) := by decide +kernel
theorem dL_law_590 : decode cL_law 590 = .ok (.invokevirtual 73, 3) := by decide +kernel
theorem dL_law_593 : decode cL_law 593 = .ok (.if_icmp .eq 416, 3) := by decide +kernel
theorem dL_law_596 : decode cL_law 596 = .ok (.iconst 0, 1) := by decide +kernel
theorem dL_law_597 : decode cL_law 597 = .ok (.ireturn, 1) := by decide +kernel
theorem dL_law_598 : decode cL_law 598 = .ok (.aload_n 1, 1) := by decide +kernel
theorem dL_law_599 : decode cL_law 599 = .ok (.aload_n 0, 1) := by decide +kernel
theorem dL_law_600 : decode cL_law 600 = .ok (.iload_n 3, 1) := by decide +kernel
theorem dL_law_601 : decode cL_law 601 = .ok (.iconst 1, 1) := by decide +kernel
theorem dL_law_602 : decode cL_law 602 = .ok (.iadd, 1) := by decide +kernel
theorem dL_law_603 : decode cL_law 603 = .ok (.iaload, 1) := by decide +kernel
theorem dL_law_604 : decode cL_law 604 = .ok (.invokevirtual 74, 3) := by decide +kernel
theorem dL_law_607 : decode cL_law 607 = .ok (.aload_n 2, 1) := by decide +kernel
theorem dL_law_608 : decode cL_law 608 = .ok (.aload_n 0, 1) := by decide +kernel
theorem dL_law_609 : decode cL_law 609 = .ok (.iload_n 3, 1) := by decide +kernel
theorem dL_law_610 : decode cL_law 610 = .ok (.iconst 1, 1) := by decide +kernel
theorem dL_law_611 : decode cL_law 611 = .ok (.iadd, 1) := by decide +kernel
theorem dL_law_612 : decode cL_law 612 = .ok (.iaload, 1) := by decide +kernel
theorem dL_law_613 : decode cL_law 613 = .ok (.invokevirtual 77, 3) := by decide +kernel
theorem dL_law_616 : decode cL_law 616 = .ok (.if_icmp .eq 393, 3) := by decide +kernel
theorem dL_law_619 : decode cL_law 619 = .ok (.iconst 0, 1) := by decide +kernel
theorem dL_law_620 : decode cL_law 620 = .ok (.ireturn, 1) := by decide +kernel
theorem dL_law_621 : decode cL_law 621 = .ok (.aload_n 1, 1) := by decide +kernel
theorem dL_law_622 : decode cL_law 622 = .ok (.aload_n 0, 1) := by decide +kernel
theorem dL_law_623 : decode cL_law 623 = .ok (.iload_n 3, 1) := by decide +kernel
theorem dL_law_624 : decode cL_law 624 = .ok (.iconst 1, 1) := by decide +kernel
theorem dL_law_625 : decode cL_law 625 = .ok (.iadd, 1) := by decide +kernel
theorem dL_law_626 : decode cL_law 626 = .ok (.iaload, 1) := by decide +kernel
theorem dL_law_627 : decode cL_law 627 = .ok (.invokevirtual 78, 3) := by decide +kernel
theorem dL_law_630 : decode cL_law 630 = .ok (.aload_n 2, 1) := by decide +kernel
theorem dL_law_631 : decode cL_law 631 = .ok (.aload_n 0, 1) := by decide +kernel
theorem dL_law_632 : decode cL_law 632 = .ok (.iload_n 3, 1) := by decide +kernel
theorem dL_law_633 : decode cL_law 633 = .ok (.iconst 1, 1) := by decide +kernel
theorem dL_law_634 : decode cL_law 634 = .ok (.iadd, 1) := by decide +kernel
theorem dL_law_635 : decode cL_law 635 = .ok (.iaload, 1) := by decide +kernel
theorem dL_law_636 : decode cL_law 636 = .ok (.invokevirtual 81, 3) := by decide +kernel
theorem dL_law_639 : decode cL_law 639 = .ok (.if_icmp .eq 370, 3) := by decide +kernel
theorem dL_law_642 : decode cL_law 642 = .ok (.iconst 0, 1) := by decide +kernel
theorem dL_law_643 : decode cL_law 643 = .ok (.ireturn, 1) := by decide +kernel
theorem dL_law_644 : decode cL_law 644 = .ok (.aload_n 1, 1) := by decide +kernel
theorem dL_law_645 : decode cL_law 645 = .ok (.aload_n 0, 1) := by decide +kernel
theorem dL_law_646 : decode cL_law 646 = .ok (.iload_n 3, 1) := by decide +kernel
theorem dL_law_647 : decode cL_law 647 = .ok (.iconst 1, 1) := by decide +kernel
theorem dL_law_648 : decode cL_law 648 = .ok (.iadd, 1) := by decide +kernel
theorem dL_law_649 : decode cL_law 649 = .ok (.iaload, 1) := by decide +kernel
theorem dL_law_650 : decode cL_law 650 = .ok (.aload_n 0, 1) := by decide +kernel
theorem dL_law_651 : decode cL_law 651 = .ok (.iload_n 3, 1) := by decide +kernel
theorem dL_law_652 : decode cL_law 652 = .ok (.iconst 2, 1) := by decide +kernel
theorem dL_law_653 : decode cL_law 653 = .ok (.iadd, 1) := by decide +kernel
theorem dL_law_654 : decode cL_law 654 = .ok (.iaload, 1) := by decide +kernel
theorem dL_law_655 : decode cL_law 655 = .ok (.aload_n 0, 1) := by decide +kernel
theorem dL_law_656 : decode cL_law 656 = .ok (.iload_n 3, 1) := by decide +kernel
theorem dL_law_657 : decode cL_law 657 = .ok (.iconst 3, 1) := by decide +kernel
theorem dL_law_658 : decode cL_law 658 = .ok (.iadd, 1) := by decide +kernel
theorem dL_law_659 : decode cL_law 659 = .ok (.iaload, 1) := by decide +kernel
theorem dL_law_660 : decode cL_law 660 = .ok (.invokevirtual 82, 3) := by decide +kernel
theorem dL_law_663 : decode cL_law 663 = .ok (.aload_n 2, 1) := by decide +kernel
theorem dL_law_664 : decode cL_law 664 = .ok (.aload_n 0, 1) := by decide +kernel
theorem dL_law_665 : decode cL_law 665 = .ok (.iload_n 3, 1) := by decide +kernel
theorem dL_law_666 : decode cL_law 666 = .ok (.iconst 1, 1) := by decide +kernel
theorem dL_law_667 : decode cL_law 667 = .ok (.iadd, 1) := by decide +kernel
theorem dL_law_668 : decode cL_law 668 = .ok (.iaload, 1) := by decide +kernel
theorem dL_law_669 : decode cL_law 669 = .ok (.aload_n 0, 1) := by decide +kernel
theorem dL_law_670 : decode cL_law 670 = .ok (.iload_n 3, 1) := by decide +kernel
theorem dL_law_671 : decode cL_law 671 = .ok (.iconst 2, 1) := by decide +kernel
theorem dL_law_672 : decode cL_law 672 = .ok (.iadd, 1) := by decide +kernel
theorem dL_law_673 : decode cL_law 673 = .ok (.iaload, 1) := by decide +kernel
theorem dL_law_674 : decode cL_law 674 = .ok (.aload_n 0, 1) := by decide +kernel
theorem dL_law_675 : decode cL_law 675 = .ok (.iload_n 3, 1) := by decide +kernel
theorem dL_law_676 : decode cL_law 676 = .ok (.iconst 3, 1) := by decide +kernel
theorem dL_law_677 : decode cL_law 677 = .ok (.iadd, 1) := by decide +kernel
theorem dL_law_678 : decode cL_law 678 = .ok (.iaload, 1) := by decide +kernel
theorem dL_law_679 : decode cL_law 679 = .ok (.invokevirtual 85, 3) := by decide +kernel
theorem dL_law_682 : decode cL_law 682 = .ok (.if_icmp .eq 327, 3) := by decide +kernel
theorem dL_law_685 : decode cL_law 685 = .ok (.iconst 0, 1) := by decide +kernel
theorem dL_law_686 : decode cL_law 686 = .ok (.ireturn, 1) := by decide +kernel
theorem dL_law_687 : decode cL_law 687 = .ok (.aload_n 1, 1) := by decide +kernel
theorem dL_law_688 : decode cL_law 688 = .ok (.aload_n 0, 1) := by decide +kernel
theorem dL_law_689 : decode cL_law 689 = .ok (.iload_n 3, 1) := by decide +kernel
theorem dL_law_690 : decode cL_law 690 = .ok (.iconst 1, 1) := by decide +kernel
theorem dL_law_691 : decode cL_law 691 = .ok (.iadd, 1) := by decide +kernel
theorem dL_law_692 : decode cL_law 692 = .ok (.iaload, 1) := by decide +kernel
theorem dL_law_693 : decode cL_law 693 = .ok (.invokevirtual 86, 3) := by decide +kernel
theorem dL_law_696 : decode cL_law 696 = .ok (.aload_n 2, 1) := by decide +kernel
theorem dL_law_697 : decode cL_law 697 = .ok (.aload_n 0, 1) := by decide +kernel
theorem dL_law_698 : decode cL_law 698 = .ok (.iload_n 3, 1) := by decide +kernel
theorem dL_law_699 : decode cL_law 699 = .ok (.iconst 1, 1) := by decide +kernel
theorem dL_law_700 : decode cL_law 700 = .ok (.iadd, 1) := by decide +kernel
theorem dL_law_701 : decode cL_law 701 = .ok (.iaload, 1) := by decide +kernel
theorem dL_law_702 : decode cL_law 702 = .ok (.invokevirtual 89, 3) := by decide +kernel
theorem dL_law_705 : decode cL_law 705 = .ok (.if_icmp .eq 304, 3) := by decide +kernel
theorem dL_law_708 : decode cL_law 708 = .ok (.iconst 0, 1) := by decide +kernel
theorem dL_law_709 : decode cL_law 709 = .ok (.ireturn, 1) := by decide +kernel
theorem dL_law_710 : decode cL_law 710 = .ok (.aload_n 1, 1) := by decide +kernel
theorem dL_law_711 : decode cL_law 711 = .ok (.aload_n 0, 1) := by decide +kernel
theorem dL_law_712 : decode cL_law 712 = .ok (.iload_n 3, 1) := by decide +kernel
theorem dL_law_713 : decode cL_law 713 = .ok (.iconst 1, 1) := by decide +kernel
theorem dL_law_714 : decode cL_law 714 = .ok (.iadd, 1) := by decide +kernel
theorem dL_law_715 : decode cL_law 715 = .ok (.iaload, 1) := by decide +kernel
theorem dL_law_716 : decode cL_law 716 = .ok (.aload_n 0, 1) := by decide +kernel
theorem dL_law_717 : decode cL_law 717 = .ok (.iload_n 3, 1) := by decide +kernel
theorem dL_law_718 : decode cL_law 718 = .ok (.iconst 2, 1) := by decide +kernel
theorem dL_law_719 : decode cL_law 719 = .ok (.iadd, 1) := by decide +kernel
theorem dL_law_720 : decode cL_law 720 = .ok (.iaload, 1) := by decide +kernel
theorem dL_law_721 : decode cL_law 721 = .ok (.aload_n 0, 1) := by decide +kernel
theorem dL_law_722 : decode cL_law 722 = .ok (.iload_n 3, 1) := by decide +kernel
theorem dL_law_723 : decode cL_law 723 = .ok (.iconst 3, 1) := by decide +kernel
theorem dL_law_724 : decode cL_law 724 = .ok (.iadd, 1) := by decide +kernel
theorem dL_law_725 : decode cL_law 725 = .ok (.iaload, 1) := by decide +kernel
theorem dL_law_726 : decode cL_law 726 = .ok (.invokevirtual 90, 3) := by decide +kernel
theorem dL_law_729 : decode cL_law 729 = .ok (.aload_n 2, 1) := by decide +kernel
theorem dL_law_730 : decode cL_law 730 = .ok (.aload_n 0, 1) := by decide +kernel
theorem dL_law_731 : decode cL_law 731 = .ok (.iload_n 3, 1) := by decide +kernel
theorem dL_law_732 : decode cL_law 732 = .ok (.iconst 1, 1) := by decide +kernel
theorem dL_law_733 : decode cL_law 733 = .ok (.iadd, 1) := by decide +kernel
theorem dL_law_734 : decode cL_law 734 = .ok (.iaload, 1) := by decide +kernel
theorem dL_law_735 : decode cL_law 735 = .ok (.aload_n 0, 1) := by decide +kernel
theorem dL_law_736 : decode cL_law 736 = .ok (.iload_n 3, 1) := by decide +kernel
theorem dL_law_737 : decode cL_law 737 = .ok (.iconst 2, 1) := by decide +kernel
theorem dL_law_738 : decode cL_law 738 = .ok (.iadd, 1) := by decide +kernel
theorem dL_law_739 : decode cL_law 739 = .ok (.iaload, 1) := by decide +kernel
theorem dL_law_740 : decode cL_law 740 = .ok (.aload_n 0, 1) := by decide +kernel
theorem dL_law_741 : decode cL_law 741 = .ok (.iload_n 3, 1) := by decide +kernel
theorem dL_law_742 : decode cL_law 742 = .ok (.iconst 3, 1) := by decide +kernel
theorem dL_law_743 : decode cL_law 743 = .ok (.iadd, 1) := by decide +kernel
theorem dL_law_744 : decode cL_law 744 = .ok (.iaload, 1) := by decide +kernel
theorem dL_law_745 : decode cL_law 745 = .ok (.invokevirtual 93, 3) := by decide +kernel
theorem dL_law_748 : decode cL_law 748 = .ok (.if_icmp .eq 261, 3) := by decide +kernel
theorem dL_law_751 : decode cL_law 751 = .ok (.iconst 0, 1) := by decide +kernel
theorem dL_law_752 : decode cL_law 752 = .ok (.ireturn, 1) := by decide +kernel
theorem dL_law_753 : decode cL_law 753 = .ok (.aload_n 1, 1) := by decide +kernel
theorem dL_law_754 : decode cL_law 754 = .ok (.aload_n 0, 1) := by decide +kernel
theorem dL_law_755 : decode cL_law 755 = .ok (.iload_n 3, 1) := by decide +kernel
theorem dL_law_756 : decode cL_law 756 = .ok (.iconst 1, 1) := by decide +kernel
theorem dL_law_757 : decode cL_law 757 = .ok (.iadd, 1) := by decide +kernel
theorem dL_law_758 : decode cL_law 758 = .ok (.iaload, 1) := by decide +kernel
theorem dL_law_759 : decode cL_law 759 = .ok (.aload_n 0, 1) := by decide +kernel
theorem dL_law_760 : decode cL_law 760 = .ok (.iload_n 3, 1) := by decide +kernel
theorem dL_law_761 : decode cL_law 761 = .ok (.iconst 2, 1) := by decide +kernel
theorem dL_law_762 : decode cL_law 762 = .ok (.iadd, 1) := by decide +kernel
theorem dL_law_763 : decode cL_law 763 = .ok (.iaload, 1) := by decide +kernel
theorem dL_law_764 : decode cL_law 764 = .ok (.aload_n 0, 1) := by decide +kernel
theorem dL_law_765 : decode cL_law 765 = .ok (.iload_n 3, 1) := by decide +kernel
theorem dL_law_766 : decode cL_law 766 = .ok (.iconst 3, 1) := by decide +kernel
theorem dL_law_767 : decode cL_law 767 = .ok (.iadd, 1) := by decide +kernel
theorem dL_law_768 : decode cL_law 768 = .ok (.iaload, 1) := by decide +kernel
theorem dL_law_769 : decode cL_law 769 = .ok (.invokevirtual 94, 3) := by decide +kernel
theorem dL_law_772 : decode cL_law 772 = .ok (.aload_n 2, 1) := by decide +kernel
theorem dL_law_773 : decode cL_law 773 = .ok (.aload_n 0, 1) := by decide +kernel
theorem dL_law_774 : decode cL_law 774 = .ok (.iload_n 3, 1) := by decide +kernel
theorem dL_law_775 : decode cL_law 775 = .ok (.iconst 1, 1) := by decide +kernel
theorem dL_law_776 : decode cL_law 776 = .ok (.iadd, 1) := by decide +kernel
theorem dL_law_777 : decode cL_law 777 = .ok (.iaload, 1) := by decide +kernel
theorem dL_law_778 : decode cL_law 778 = .ok (.aload_n 0, 1) := by decide +kernel
theorem dL_law_779 : decode cL_law 779 = .ok (.iload_n 3, 1) := by decide +kernel
theorem dL_law_780 : decode cL_law 780 = .ok (.iconst 2, 1) := by decide +kernel
theorem dL_law_781 : decode cL_law 781 = .ok (.iadd, 1) := by decide +kernel
theorem dL_law_782 : decode cL_law 782 = .ok (.iaload, 1) := by decide +kernel
theorem dL_law_783 : decode cL_law 783 = .ok (.aload_n 0, 1) := by decide +kernel
theorem dL_law_784 : decode cL_law 784 = .ok (.iload_n 3, 1) := by decide +kernel
theorem dL_law_785 : decode cL_law 785 = .ok (.iconst 3, 1) := by decide +kernel
theorem dL_law_786 : decode cL_law 786 = .ok (.iadd, 1) := by decide +kernel
theorem dL_law_787 : decode cL_law 787 = .ok (.iaload, 1) := by decide +kernel
theorem dL_law_788 : decode cL_law 788 = .ok (.invokevirtual 97, 3) := by decide +kernel
theorem dL_law_791 : decode cL_law 791 = .ok (.if_icmp .eq 218, 3) := by decide +kernel
theorem dL_law_794 : decode cL_law 794 = .ok (.iconst 0, 1) := by decide +kernel
theorem dL_law_795 : decode cL_law 795 = .ok (.ireturn, 1) := by decide +kernel
theorem dL_law_796 : decode cL_law 796 = .ok (.aload_n 1, 1) := by decide +kernel
theorem dL_law_797 : decode cL_law 797 = .ok (.aload_n 0, 1) := by decide +kernel
theorem dL_law_798 : decode cL_law 798 = .ok (.iload_n 3, 1) := by decide +kernel
theorem dL_law_799 : decode cL_law 799 = .ok (.iconst 1, 1) := by decide +kernel
theorem dL_law_800 : decode cL_law 800 = .ok (.iadd, 1) := by decide +kernel
theorem dL_law_801 : decode cL_law 801 = .ok (.iaload, 1) := by decide +kernel
theorem dL_law_802 : decode cL_law 802 = .ok (.aload_n 0, 1) := by decide +kernel
theorem dL_law_803 : decode cL_law 803 = .ok (.iload_n 3, 1) := by decide +kernel
theorem dL_law_804 : decode cL_law 804 = .ok (.iconst 2, 1) := by decide +kernel
theorem dL_law_805 : decode cL_law 805 = .ok (.iadd, 1) := by decide +kernel
theorem dL_law_806 : decode cL_law 806 = .ok (.iaload, 1) := by decide +kernel
theorem dL_law_807 : decode cL_law 807 = .ok (.aload_n 0, 1) := by decide +kernel
theorem dL_law_808 : decode cL_law 808 = .ok (.iload_n 3, 1) := by decide +kernel
theorem dL_law_809 : decode cL_law 809 = .ok (.iconst 3, 1) := by decide +kernel
theorem dL_law_810 : decode cL_law 810 = .ok (.iadd, 1) := by decide +kernel
theorem dL_law_811 : decode cL_law 811 = .ok (.iaload, 1) := by decide +kernel
theorem dL_law_812 : decode cL_law 812 = .ok (.invokevirtual 98, 3) := by decide +kernel
theorem dL_law_815 : decode cL_law 815 = .ok (.aload_n 2, 1) := by decide +kernel
theorem dL_law_816 : decode cL_law 816 = .ok (.aload_n 0, 1) := by decide +kernel
theorem dL_law_817 : decode cL_law 817 = .ok (.iload_n 3, 1) := by decide +kernel
theorem dL_law_818 : decode cL_law 818 = .ok (.iconst 1, 1) := by decide +kernel
theorem dL_law_819 : decode cL_law 819 = .ok (.iadd, 1) := by decide +kernel
theorem dL_law_820 : decode cL_law 820 = .ok (.iaload, 1) := by decide +kernel
theorem dL_law_821 : decode cL_law 821 = .ok (.aload_n 0, 1) := by decide +kernel
theorem dL_law_822 : decode cL_law 822 = .ok (.iload_n 3, 1) := by decide +kernel
theorem dL_law_823 : decode cL_law 823 = .ok (.iconst 2, 1) := by decide +kernel
theorem dL_law_824 : decode cL_law 824 = .ok (.iadd, 1) := by decide +kernel
theorem dL_law_825 : decode cL_law 825 = .ok (.iaload, 1) := by decide +kernel
theorem dL_law_826 : decode cL_law 826 = .ok (.aload_n 0, 1) := by decide +kernel
theorem dL_law_827 : decode cL_law 827 = .ok (.iload_n 3, 1) := by decide +kernel
theorem dL_law_828 : decode cL_law 828 = .ok (.iconst 3, 1) := by decide +kernel
theorem dL_law_829 : decode cL_law 829 = .ok (.iadd, 1) := by decide +kernel
theorem dL_law_830 : decode cL_law 830 = .ok (.iaload, 1) := by decide +kernel
theorem dL_law_831 : decode cL_law 831 = .ok (.invokevirtual 101, 3) := by decide +kernel
theorem dL_law_834 : decode cL_law 834 = .ok (.if_icmp .eq 175, 3) := by decide +kernel
theorem dL_law_837 : decode cL_law 837 = .ok (.iconst 0, 1) := by decide +kernel
theorem dL_law_838 : decode cL_law 838 = .ok (.ireturn, 1) := by decide +kernel
theorem dL_law_839 : decode cL_law 839 = .ok (.aload_n 1, 1) := by decide +kernel
theorem dL_law_840 : decode cL_law 840 = .ok (.aload_n 0, 1) := by decide +kernel
theorem dL_law_841 : decode cL_law 841 = .ok (.iload_n 3, 1) := by decide +kernel
theorem dL_law_842 : decode cL_law 842 = .ok (.iconst 1, 1) := by decide +kernel
theorem dL_law_843 : decode cL_law 843 = .ok (.iadd, 1) := by decide +kernel
theorem dL_law_844 : decode cL_law 844 = .ok (.iaload, 1) := by decide +kernel
theorem dL_law_845 : decode cL_law 845 = .ok (.aload_n 0, 1) := by decide +kernel
theorem dL_law_846 : decode cL_law 846 = .ok (.iload_n 3, 1) := by decide +kernel
theorem dL_law_847 : decode cL_law 847 = .ok (.iconst 2, 1) := by decide +kernel
theorem dL_law_848 : decode cL_law 848 = .ok (.iadd, 1) := by decide +kernel
theorem dL_law_849 : decode cL_law 849 = .ok (.iaload, 1) := by decide +kernel
theorem dL_law_850 : decode cL_law 850 = .ok (.aload_n 0, 1) := by decide +kernel
theorem dL_law_851 : decode cL_law 851 = .ok (.iload_n 3, 1) := by decide +kernel
theorem dL_law_852 : decode cL_law 852 = .ok (.iconst 3, 1) := by decide +kernel
theorem dL_law_853 : decode cL_law 853 = .ok (.iadd, 1) := by decide +kernel
theorem dL_law_854 : decode cL_law 854 = .ok (.iaload, 1) := by decide +kernel
theorem dL_law_855 : decode cL_law 855 = .ok (.invokevirtual 102, 3) := by decide +kernel
theorem dL_law_858 : decode cL_law 858 = .ok (.aload_n 2, 1) := by decide +kernel
theorem dL_law_859 : decode cL_law 859 = .ok (.aload_n 0, 1) := by decide +kernel
theorem dL_law_860 : decode cL_law 860 = .ok (.iload_n 3, 1) := by decide +kernel
theorem dL_law_861 : decode cL_law 861 = .ok (.iconst 1, 1) := by decide +kernel
theorem dL_law_862 : decode cL_law 862 = .ok (.iadd, 1) := by decide +kernel
theorem dL_law_863 : decode cL_law 863 = .ok (.iaload, 1) := by decide +kernel
theorem dL_law_864 : decode cL_law 864 = .ok (.aload_n 0, 1) := by decide +kernel
theorem dL_law_865 : decode cL_law 865 = .ok (.iload_n 3, 1) := by decide +kernel
theorem dL_law_866 : decode cL_law 866 = .ok (.iconst 2, 1) := by decide +kernel
theorem dL_law_867 : decode cL_law 867 = .ok (.iadd, 1) := by decide +kernel
theorem dL_law_868 : decode cL_law 868 = .ok (.iaload, 1) := by decide +kernel
theorem dL_law_869 : decode cL_law 869 = .ok (.aload_n 0, 1) := by decide +kernel
theorem dL_law_870 : decode cL_law 870 = .ok (.iload_n 3, 1) := by decide +kernel
theorem dL_law_871 : decode cL_law 871 = .ok (.iconst 3, 1) := by decide +kernel
theorem dL_law_872 : decode cL_law 872 = .ok (.iadd, 1) := by decide +kernel
theorem dL_law_873 : decode cL_law 873 = .ok (.iaload, 1) := by decide +kernel
theorem dL_law_874 : decode cL_law 874 = .ok (.invokevirtual 105, 3) := by decide +kernel
theorem dL_law_877 : decode cL_law 877 = .ok (.if_icmp .eq 132, 3) := by decide +kernel
theorem dL_law_880 : decode cL_law 880 = .ok (.iconst 0, 1) := by decide +kernel
theorem dL_law_881 : decode cL_law 881 = .ok (.ireturn, 1) := by decide +kernel
theorem dL_law_882 : decode cL_law 882 = .ok (.aload_n 1, 1) := by decide +kernel
theorem dL_law_883 : decode cL_law 883 = .ok (.aload_n 0, 1) := by decide +kernel
theorem dL_law_884 : decode cL_law 884 = .ok (.iload_n 3, 1) := by decide +kernel
theorem dL_law_885 : decode cL_law 885 = .ok (.iconst 1, 1) := by decide +kernel
theorem dL_law_886 : decode cL_law 886 = .ok (.iadd, 1) := by decide +kernel
theorem dL_law_887 : decode cL_law 887 = .ok (.iaload, 1) := by decide +kernel
theorem dL_law_888 : decode cL_law 888 = .ok (.aload_n 0, 1) := by decide +kernel
theorem dL_law_889 : decode cL_law 889 = .ok (.iload_n 3, 1) := by decide +kernel
theorem dL_law_890 : decode cL_law 890 = .ok (.iconst 2, 1) := by decide +kernel
theorem dL_law_891 : decode cL_law 891 = .ok (.iadd, 1) := by decide +kernel
theorem dL_law_892 : decode cL_law 892 = .ok (.iaload, 1) := by decide +kernel
theorem dL_law_893 : decode cL_law 893 = .ok (.aload_n 0, 1) := by decide +kernel
theorem dL_law_894 : decode cL_law 894 = .ok (.iload_n 3, 1) := by decide +kernel
theorem dL_law_895 : decode cL_law 895 = .ok (.iconst 3, 1) := by decide +kernel
theorem dL_law_896 : decode cL_law 896 = .ok (.iadd, 1) := by decide +kernel
theorem dL_law_897 : decode cL_law 897 = .ok (.iaload, 1) := by decide +kernel
theorem dL_law_898 : decode cL_law 898 = .ok (.invokevirtual 106, 3) := by decide +kernel
theorem dL_law_901 : decode cL_law 901 = .ok (.aload_n 2, 1) := by decide +kernel
theorem dL_law_902 : decode cL_law 902 = .ok (.aload_n 0, 1) := by decide +kernel
theorem dL_law_903 : decode cL_law 903 = .ok (.iload_n 3, 1) := by decide +kernel
theorem dL_law_904 : decode cL_law 904 = .ok (.iconst 1, 1) := by decide +kernel
theorem dL_law_905 : decode cL_law 905 = .ok (.iadd, 1) := by decide +kernel
theorem dL_law_906 : decode cL_law 906 = .ok (.iaload, 1) := by decide +kernel
theorem dL_law_907 : decode cL_law 907 = .ok (.aload_n 0, 1) := by decide +kernel
theorem dL_law_908 : decode cL_law 908 = .ok (.iload_n 3, 1) := by decide +kernel
theorem dL_law_909 : decode cL_law 909 = .ok (.iconst 2, 1) := by decide +kernel
theorem dL_law_910 : decode cL_law 910 = .ok (.iadd, 1) := by decide +kernel
theorem dL_law_911 : decode cL_law 911 = .ok (.iaload, 1) := by decide +kernel
theorem dL_law_912 : decode cL_law 912 = .ok (.aload_n 0, 1) := by decide +kernel
theorem dL_law_913 : decode cL_law 913 = .ok (.iload_n 3, 1) := by decide +kernel
theorem dL_law_914 : decode cL_law 914 = .ok (.iconst 3, 1) := by decide +kernel
theorem dL_law_915 : decode cL_law 915 = .ok (.iadd, 1) := by decide +kernel
theorem dL_law_916 : decode cL_law 916 = .ok (.iaload, 1) := by decide +kernel
theorem dL_law_917 : decode cL_law 917 = .ok (.invokevirtual 109, 3) := by decide +kernel
theorem dL_law_920 : decode cL_law 920 = .ok (.if_icmp .eq 89, 3) := by decide +kernel
theorem dL_law_923 : decode cL_law 923 = .ok (.iconst 0, 1) := by decide +kernel
theorem dL_law_924 : decode cL_law 924 = .ok (.ireturn, 1) := by decide +kernel
theorem dL_law_925 : decode cL_law 925 = .ok (.aload_n 1, 1) := by decide +kernel
theorem dL_law_926 : decode cL_law 926 = .ok (.aload_n 0, 1) := by decide +kernel
theorem dL_law_927 : decode cL_law 927 = .ok (.iload_n 3, 1) := by decide +kernel
theorem dL_law_928 : decode cL_law 928 = .ok (.iconst 1, 1) := by decide +kernel
theorem dL_law_929 : decode cL_law 929 = .ok (.iadd, 1) := by decide +kernel
theorem dL_law_930 : decode cL_law 930 = .ok (.iaload, 1) := by decide +kernel
theorem dL_law_931 : decode cL_law 931 = .ok (.invokevirtual 110, 3) := by decide +kernel
theorem dL_law_934 : decode cL_law 934 = .ok (.aload_n 2, 1) := by decide +kernel
theorem dL_law_935 : decode cL_law 935 = .ok (.aload_n 0, 1) := by decide +kernel
theorem dL_law_936 : decode cL_law 936 = .ok (.iload_n 3, 1) := by decide +kernel
theorem dL_law_937 : decode cL_law 937 = .ok (.iconst 1, 1) := by decide +kernel
theorem dL_law_938 : decode cL_law 938 = .ok (.iadd, 1) := by decide +kernel
theorem dL_law_939 : decode cL_law 939 = .ok (.iaload, 1) := by decide +kernel
theorem dL_law_940 : decode cL_law 940 = .ok (.invokevirtual 113, 3) := by decide +kernel
theorem dL_law_943 : decode cL_law 943 = .ok (.if_icmp .eq 66, 3) := by decide +kernel
theorem dL_law_946 : decode cL_law 946 = .ok (.iconst 0, 1) := by decide +kernel
theorem dL_law_947 : decode cL_law 947 = .ok (.ireturn, 1) := by decide +kernel
theorem dL_law_948 : decode cL_law 948 = .ok (.aload_n 1, 1) := by decide +kernel
theorem dL_law_949 : decode cL_law 949 = .ok (.aload_n 0, 1) := by decide +kernel
theorem dL_law_950 : decode cL_law 950 = .ok (.iload_n 3, 1) := by decide +kernel
theorem dL_law_951 : decode cL_law 951 = .ok (.iconst 1, 1) := by decide +kernel
theorem dL_law_952 : decode cL_law 952 = .ok (.iadd, 1) := by decide +kernel
theorem dL_law_953 : decode cL_law 953 = .ok (.iaload, 1) := by decide +kernel
theorem dL_law_954 : decode cL_law 954 = .ok (.invokevirtual 114, 3) := by decide +kernel
theorem dL_law_957 : decode cL_law 957 = .ok (.aload_n 2, 1) := by decide +kernel
theorem dL_law_958 : decode cL_law 958 = .ok (.aload_n 0, 1) := by decide +kernel
theorem dL_law_959 : decode cL_law 959 = .ok (.iload_n 3, 1) := by decide +kernel
theorem dL_law_960 : decode cL_law 960 = .ok (.iconst 1, 1) := by decide +kernel
theorem dL_law_961 : decode cL_law 961 = .ok (.iadd, 1) := by decide +kernel
theorem dL_law_962 : decode cL_law 962 = .ok (.iaload, 1) := by decide +kernel
theorem dL_law_963 : decode cL_law 963 = .ok (.invokevirtual 118, 3) := by decide +kernel
theorem dL_law_966 : decode cL_law 966 = .ok (.lcmp, 1) := by decide +kernel
theorem dL_law_967 : decode cL_law 967 = .ok (.ifCond .eq 42, 3) := by decide +kernel
theorem dL_law_970 : decode cL_law 970 = .ok (.iconst 0, 1) := by decide +kernel
theorem dL_law_971 : decode cL_law 971 = .ok (.ireturn, 1) := by decide +kernel
theorem dL_law_972 : decode cL_law 972 = .ok (.aload_n 1, 1) := by decide +kernel
theorem dL_law_973 : decode cL_law 973 = .ok (.aload_n 0, 1) := by decide +kernel
theorem dL_law_974 : decode cL_law 974 = .ok (.iload_n 3, 1) := by decide +kernel
theorem dL_law_975 : decode cL_law 975 = .ok (.iconst 1, 1) := by decide +kernel
theorem dL_law_976 : decode cL_law 976 = .ok (.iadd, 1) := by decide +kernel
theorem dL_law_977 : decode cL_law 977 = .ok (.iaload, 1) := by decide +kernel
theorem dL_law_978 : decode cL_law 978 = .ok (.invokevirtual 119, 3) := by decide +kernel
theorem dL_law_981 : decode cL_law 981 = .ok (.aload_n 2, 1) := by decide +kernel
theorem dL_law_982 : decode cL_law 982 = .ok (.aload_n 0, 1) := by decide +kernel
theorem dL_law_983 : decode cL_law 983 = .ok (.iload_n 3, 1) := by decide +kernel
theorem dL_law_984 : decode cL_law 984 = .ok (.iconst 1, 1) := by decide +kernel
theorem dL_law_985 : decode cL_law 985 = .ok (.iadd, 1) := by decide +kernel
theorem dL_law_986 : decode cL_law 986 = .ok (.iaload, 1) := by decide +kernel
theorem dL_law_987 : decode cL_law 987 = .ok (.invokevirtual 122, 3) := by decide +kernel
theorem dL_law_990 : decode cL_law 990 = .ok (.if_icmp .eq 19, 3) := by decide +kernel
theorem dL_law_993 : decode cL_law 993 = .ok (.iconst 0, 1) := by decide +kernel
theorem dL_law_994 : decode cL_law 994 = .ok (.ireturn, 1) := by decide +kernel
theorem dL_law_995 : decode cL_law 995 = .ok (.aload_n 1, 1) := by decide +kernel
theorem dL_law_996 : decode cL_law 996 = .ok (.invokevirtual 123, 3) := by decide +kernel
theorem dL_law_999 : decode cL_law 999 = .ok (.aload_n 2, 1) := by decide +kernel
theorem dL_law_1000 : decode cL_law 1000 = .ok (.invokevirtual 127, 3) := by decide +kernel
theorem dL_law_1003 : decode cL_law 1003 = .ok (.lcmp, 1) := by decide +kernel
theorem dL_law_1004 : decode cL_law 1004 = .ok (.ifCond .eq 5, 3) := by decide +kernel
theorem dL_law_1007 : decode cL_law 1007 = .ok (.iconst 0, 1) := by decide +kernel
theorem dL_law_1008 : decode cL_law 1008 = .ok (.ireturn, 1) := by decide +kernel
theorem dL_law_1009 : decode cL_law 1009 = .ok (.iinc 3 5, 3) := by decide +kernel
theorem dL_law_1012 : decode cL_law 1012 = .ok (.goto (-994), 3) := by decide +kernel
theorem dL_law_1015 : decode cL_law 1015 = .ok (.iconst 1, 1) := by decide +kernel
theorem dL_law_1016 : decode cL_law 1016 = .ok (.ireturn, 1) := by decide +kernel
theorem ml_0 : Cond.code yX3_steps cX3_steps 3 (some .int) ∈ e_tbl := e_tbl_mem (List.mem_of_getElem? (i := 228) (by decide +kernel)) rfl
theorem ml_1 : Cond.selects RX3 yX3_steps yX3_steps ∈ e_tbl := e_tbl_mem (List.mem_of_getElem? (i := 227) (by decide +kernel)) rfl
theorem ml_2 : Cond.methodLink RL 13 yX3_steps ∈ e_tbl := e_tbl_mem (List.mem_of_getElem? (i := 225) (by decide +kernel)) rfl
theorem ml_3 : Cond.instanceMethod yX3_steps ∈ e_tbl := e_tbl_mem (List.mem_of_getElem? (i := 226) (by decide +kernel)) rfl
theorem ml_4 : Cond.initialized RX3 ∈ e_tbl := e_tbl_mem (List.mem_of_getElem? (i := 63) (by decide +kernel)) rfl
theorem ml_5 : Cond.code yX4_steps cX4_steps 3 (some .int) ∈ e_tbl := e_tbl_mem (List.mem_of_getElem? (i := 785) (by decide +kernel)) rfl
theorem ml_6 : Cond.selects RX4 yX4_steps yX4_steps ∈ e_tbl := e_tbl_mem (List.mem_of_getElem? (i := 784) (by decide +kernel)) rfl
theorem ml_7 : Cond.methodLink RL 17 yX4_steps ∈ e_tbl := e_tbl_mem (List.mem_of_getElem? (i := 782) (by decide +kernel)) rfl
theorem ml_8 : Cond.instanceMethod yX4_steps ∈ e_tbl := e_tbl_mem (List.mem_of_getElem? (i := 783) (by decide +kernel)) rfl
theorem ml_9 : Cond.initialized RX4 ∈ e_tbl := e_tbl_mem (List.mem_of_getElem? (i := 67) (by decide +kernel)) rfl
theorem ml_10 : Cond.code yX3_envoy cX3_envoy 3 (some .int) ∈ e_tbl := e_tbl_mem (List.mem_of_getElem? (i := 232) (by decide +kernel)) rfl
theorem ml_11 : Cond.selects RX3 yX3_envoy yX3_envoy ∈ e_tbl := e_tbl_mem (List.mem_of_getElem? (i := 231) (by decide +kernel)) rfl
theorem ml_12 : Cond.methodLink RL 18 yX3_envoy ∈ e_tbl := e_tbl_mem (List.mem_of_getElem? (i := 229) (by decide +kernel)) rfl
theorem ml_13 : Cond.instanceMethod yX3_envoy ∈ e_tbl := e_tbl_mem (List.mem_of_getElem? (i := 230) (by decide +kernel)) rfl
theorem ml_14 : Cond.code yX4_envoy cX4_envoy 4 (some .int) ∈ e_tbl := e_tbl_mem (List.mem_of_getElem? (i := 793) (by decide +kernel)) rfl
theorem ml_15 : Cond.selects RX4 yX4_envoy yX4_envoy ∈ e_tbl := e_tbl_mem (List.mem_of_getElem? (i := 792) (by decide +kernel)) rfl
theorem ml_16 : Cond.methodLink RL 21 yX4_envoy ∈ e_tbl := e_tbl_mem (List.mem_of_getElem? (i := 790) (by decide +kernel)) rfl
theorem ml_17 : Cond.instanceMethod yX4_envoy ∈ e_tbl := e_tbl_mem (List.mem_of_getElem? (i := 791) (by decide +kernel)) rfl
theorem ml_18 : Cond.code yX3_put cX3_put 7 (some .int) ∈ e_tbl := e_tbl_mem (List.mem_of_getElem? (i := 250) (by decide +kernel)) rfl
theorem ml_19 : Cond.selects RX3 yX3_put yX3_put ∈ e_tbl := e_tbl_mem (List.mem_of_getElem? (i := 249) (by decide +kernel)) rfl
theorem ml_20 : Cond.methodLink RL 22 yX3_put ∈ e_tbl := e_tbl_mem (List.mem_of_getElem? (i := 247) (by decide +kernel)) rfl
theorem ml_21 : Cond.instanceMethod yX3_put ∈ e_tbl := e_tbl_mem (List.mem_of_getElem? (i := 248) (by decide +kernel)) rfl
theorem ml_22 : Cond.code yX4_put cX4_put 6 (some .int) ∈ e_tbl := e_tbl_mem (List.mem_of_getElem? (i := 804) (by decide +kernel)) rfl
theorem ml_23 : Cond.selects RX4 yX4_put yX4_put ∈ e_tbl := e_tbl_mem (List.mem_of_getElem? (i := 803) (by decide +kernel)) rfl
theorem ml_24 : Cond.methodLink RL 26 yX4_put ∈ e_tbl := e_tbl_mem (List.mem_of_getElem? (i := 801) (by decide +kernel)) rfl
theorem ml_25 : Cond.instanceMethod yX4_put ∈ e_tbl := e_tbl_mem (List.mem_of_getElem? (i := 802) (by decide +kernel)) rfl
theorem ml_26 : Cond.code yX3_worth cX3_worth 4 (some .int) ∈ e_tbl := e_tbl_mem (List.mem_of_getElem? (i := 262) (by decide +kernel)) rfl
theorem ml_27 : Cond.selects RX3 yX3_worth yX3_worth ∈ e_tbl := e_tbl_mem (List.mem_of_getElem? (i := 261) (by decide +kernel)) rfl
theorem ml_28 : Cond.methodLink RL 27 yX3_worth ∈ e_tbl := e_tbl_mem (List.mem_of_getElem? (i := 259) (by decide +kernel)) rfl
theorem ml_29 : Cond.instanceMethod yX3_worth ∈ e_tbl := e_tbl_mem (List.mem_of_getElem? (i := 260) (by decide +kernel)) rfl
theorem ml_30 : Cond.code yX4_worth cX4_worth 4 (some .int) ∈ e_tbl := e_tbl_mem (List.mem_of_getElem? (i := 819) (by decide +kernel)) rfl
theorem ml_31 : Cond.selects RX4 yX4_worth yX4_worth ∈ e_tbl := e_tbl_mem (List.mem_of_getElem? (i := 818) (by decide +kernel)) rfl
theorem ml_32 : Cond.methodLink RL 31 yX4_worth ∈ e_tbl := e_tbl_mem (List.mem_of_getElem? (i := 816) (by decide +kernel)) rfl
theorem ml_33 : Cond.instanceMethod yX4_worth ∈ e_tbl := e_tbl_mem (List.mem_of_getElem? (i := 817) (by decide +kernel)) rfl
theorem ml_34 : Cond.code yX3_takes cX3_takes 5 (some .int) ∈ e_tbl := e_tbl_mem (List.mem_of_getElem? (i := 275) (by decide +kernel)) rfl
theorem ml_35 : Cond.selects RX3 yX3_takes yX3_takes ∈ e_tbl := e_tbl_mem (List.mem_of_getElem? (i := 274) (by decide +kernel)) rfl
theorem ml_36 : Cond.methodLink RL 32 yX3_takes ∈ e_tbl := e_tbl_mem (List.mem_of_getElem? (i := 272) (by decide +kernel)) rfl
theorem ml_37 : Cond.instanceMethod yX3_takes ∈ e_tbl := e_tbl_mem (List.mem_of_getElem? (i := 273) (by decide +kernel)) rfl
theorem ml_38 : Cond.code yX4_takes cX4_takes 4 (some .int) ∈ e_tbl := e_tbl_mem (List.mem_of_getElem? (i := 832) (by decide +kernel)) rfl
theorem ml_39 : Cond.selects RX4 yX4_takes yX4_takes ∈ e_tbl := e_tbl_mem (List.mem_of_getElem? (i := 831) (by decide +kernel)) rfl
theorem ml_40 : Cond.methodLink RL 35 yX4_takes ∈ e_tbl := e_tbl_mem (List.mem_of_getElem? (i := 829) (by decide +kernel)) rfl
theorem ml_41 : Cond.instanceMethod yX4_takes ∈ e_tbl := e_tbl_mem (List.mem_of_getElem? (i := 830) (by decide +kernel)) rfl
theorem ml_42 : Cond.code yX3_set cX3_set 3 (some .int) ∈ e_tbl := e_tbl_mem (List.mem_of_getElem? (i := 288) (by decide +kernel)) rfl
theorem ml_43 : Cond.selects RX3 yX3_set yX3_set ∈ e_tbl := e_tbl_mem (List.mem_of_getElem? (i := 287) (by decide +kernel)) rfl
theorem ml_44 : Cond.methodLink RL 36 yX3_set ∈ e_tbl := e_tbl_mem (List.mem_of_getElem? (i := 285) (by decide +kernel)) rfl
theorem ml_45 : Cond.instanceMethod yX3_set ∈ e_tbl := e_tbl_mem (List.mem_of_getElem? (i := 286) (by decide +kernel)) rfl
theorem ml_46 : Cond.code yX4_set cX4_set 5 (some .int) ∈ e_tbl := e_tbl_mem (List.mem_of_getElem? (i := 840) (by decide +kernel)) rfl
theorem ml_47 : Cond.selects RX4 yX4_set yX4_set ∈ e_tbl := e_tbl_mem (List.mem_of_getElem? (i := 839) (by decide +kernel)) rfl
theorem ml_48 : Cond.methodLink RL 40 yX4_set ∈ e_tbl := e_tbl_mem (List.mem_of_getElem? (i := 837) (by decide +kernel)) rfl
theorem ml_49 : Cond.instanceMethod yX4_set ∈ e_tbl := e_tbl_mem (List.mem_of_getElem? (i := 838) (by decide +kernel)) rfl
theorem ml_50 : Cond.code yX3_lot cX3_lot 3 (some .int) ∈ e_tbl := e_tbl_mem (List.mem_of_getElem? (i := 304) (by decide +kernel)) rfl
theorem ml_51 : Cond.selects RX3 yX3_lot yX3_lot ∈ e_tbl := e_tbl_mem (List.mem_of_getElem? (i := 303) (by decide +kernel)) rfl
theorem ml_52 : Cond.methodLink RL 41 yX3_lot ∈ e_tbl := e_tbl_mem (List.mem_of_getElem? (i := 301) (by decide +kernel)) rfl
theorem ml_53 : Cond.instanceMethod yX3_lot ∈ e_tbl := e_tbl_mem (List.mem_of_getElem? (i := 302) (by decide +kernel)) rfl
theorem ml_54 : Cond.code yX4_lot cX4_lot 3 (some .int) ∈ e_tbl := e_tbl_mem (List.mem_of_getElem? (i := 847) (by decide +kernel)) rfl
theorem ml_55 : Cond.selects RX4 yX4_lot yX4_lot ∈ e_tbl := e_tbl_mem (List.mem_of_getElem? (i := 846) (by decide +kernel)) rfl
theorem ml_56 : Cond.methodLink RL 44 yX4_lot ∈ e_tbl := e_tbl_mem (List.mem_of_getElem? (i := 844) (by decide +kernel)) rfl
theorem ml_57 : Cond.instanceMethod yX4_lot ∈ e_tbl := e_tbl_mem (List.mem_of_getElem? (i := 845) (by decide +kernel)) rfl
theorem ml_58 : Cond.code yX3_write cX3_write 2 (some .int) ∈ e_tbl := e_tbl_mem (List.mem_of_getElem? (i := 308) (by decide +kernel)) rfl
theorem ml_59 : Cond.selects RX3 yX3_write yX3_write ∈ e_tbl := e_tbl_mem (List.mem_of_getElem? (i := 307) (by decide +kernel)) rfl
theorem ml_60 : Cond.methodLink RL 45 yX3_write ∈ e_tbl := e_tbl_mem (List.mem_of_getElem? (i := 305) (by decide +kernel)) rfl
theorem ml_61 : Cond.instanceMethod yX3_write ∈ e_tbl := e_tbl_mem (List.mem_of_getElem? (i := 306) (by decide +kernel)) rfl
theorem ml_62 : Cond.code yX4_write cX4_write 2 (some .int) ∈ e_tbl := e_tbl_mem (List.mem_of_getElem? (i := 851) (by decide +kernel)) rfl
theorem ml_63 : Cond.selects RX4 yX4_write yX4_write ∈ e_tbl := e_tbl_mem (List.mem_of_getElem? (i := 850) (by decide +kernel)) rfl
theorem ml_64 : Cond.methodLink RL 48 yX4_write ∈ e_tbl := e_tbl_mem (List.mem_of_getElem? (i := 848) (by decide +kernel)) rfl
theorem ml_65 : Cond.instanceMethod yX4_write ∈ e_tbl := e_tbl_mem (List.mem_of_getElem? (i := 849) (by decide +kernel)) rfl
theorem ml_66 : Cond.code yX3_erase cX3_erase 2 (some .int) ∈ e_tbl := e_tbl_mem (List.mem_of_getElem? (i := 446) (by decide +kernel)) rfl
theorem ml_67 : Cond.selects RX3 yX3_erase yX3_erase ∈ e_tbl := e_tbl_mem (List.mem_of_getElem? (i := 445) (by decide +kernel)) rfl
theorem ml_68 : Cond.methodLink RL 49 yX3_erase ∈ e_tbl := e_tbl_mem (List.mem_of_getElem? (i := 443) (by decide +kernel)) rfl
theorem ml_69 : Cond.instanceMethod yX3_erase ∈ e_tbl := e_tbl_mem (List.mem_of_getElem? (i := 444) (by decide +kernel)) rfl
theorem ml_70 : Cond.code yX4_erase cX4_erase 2 (some .int) ∈ e_tbl := e_tbl_mem (List.mem_of_getElem? (i := 856) (by decide +kernel)) rfl
theorem ml_71 : Cond.selects RX4 yX4_erase yX4_erase ∈ e_tbl := e_tbl_mem (List.mem_of_getElem? (i := 855) (by decide +kernel)) rfl
theorem ml_72 : Cond.methodLink RL 53 yX4_erase ∈ e_tbl := e_tbl_mem (List.mem_of_getElem? (i := 853) (by decide +kernel)) rfl
theorem ml_73 : Cond.instanceMethod yX4_erase ∈ e_tbl := e_tbl_mem (List.mem_of_getElem? (i := 854) (by decide +kernel)) rfl
theorem ml_74 : Cond.code yX3_fault cX3_fault 1 (some .int) ∈ e_tbl := e_tbl_mem (List.mem_of_getElem? (i := 454) (by decide +kernel)) rfl
theorem ml_75 : Cond.selects RX3 yX3_fault yX3_fault ∈ e_tbl := e_tbl_mem (List.mem_of_getElem? (i := 453) (by decide +kernel)) rfl
theorem ml_76 : Cond.methodLink RL 54 yX3_fault ∈ e_tbl := e_tbl_mem (List.mem_of_getElem? (i := 451) (by decide +kernel)) rfl
theorem ml_77 : Cond.instanceMethod yX3_fault ∈ e_tbl := e_tbl_mem (List.mem_of_getElem? (i := 452) (by decide +kernel)) rfl
theorem ml_78 : Cond.code yX4_fault cX4_fault 2 (some .int) ∈ e_tbl := e_tbl_mem (List.mem_of_getElem? (i := 860) (by decide +kernel)) rfl
theorem ml_79 : Cond.selects RX4 yX4_fault yX4_fault ∈ e_tbl := e_tbl_mem (List.mem_of_getElem? (i := 859) (by decide +kernel)) rfl
theorem ml_80 : Cond.methodLink RL 57 yX4_fault ∈ e_tbl := e_tbl_mem (List.mem_of_getElem? (i := 857) (by decide +kernel)) rfl
theorem ml_81 : Cond.instanceMethod yX4_fault ∈ e_tbl := e_tbl_mem (List.mem_of_getElem? (i := 858) (by decide +kernel)) rfl
theorem ml_82 : Cond.code yX3_settle cX3_settle 3 (some .int) ∈ e_tbl := e_tbl_mem (List.mem_of_getElem? (i := 458) (by decide +kernel)) rfl
theorem ml_83 : Cond.selects RX3 yX3_settle yX3_settle ∈ e_tbl := e_tbl_mem (List.mem_of_getElem? (i := 457) (by decide +kernel)) rfl
theorem ml_84 : Cond.methodLink RL 58 yX3_settle ∈ e_tbl := e_tbl_mem (List.mem_of_getElem? (i := 455) (by decide +kernel)) rfl
theorem ml_85 : Cond.instanceMethod yX3_settle ∈ e_tbl := e_tbl_mem (List.mem_of_getElem? (i := 456) (by decide +kernel)) rfl
theorem ml_86 : Cond.code yX4_settle cX4_settle 3 (some .int) ∈ e_tbl := e_tbl_mem (List.mem_of_getElem? (i := 897) (by decide +kernel)) rfl
theorem ml_87 : Cond.selects RX4 yX4_settle yX4_settle ∈ e_tbl := e_tbl_mem (List.mem_of_getElem? (i := 896) (by decide +kernel)) rfl
theorem ml_88 : Cond.methodLink RL 61 yX4_settle ∈ e_tbl := e_tbl_mem (List.mem_of_getElem? (i := 894) (by decide +kernel)) rfl
theorem ml_89 : Cond.instanceMethod yX4_settle ∈ e_tbl := e_tbl_mem (List.mem_of_getElem? (i := 895) (by decide +kernel)) rfl
theorem ml_90 : Cond.code yX3_round cX3_round 3 (some .int) ∈ e_tbl := e_tbl_mem (List.mem_of_getElem? (i := 533) (by decide +kernel)) rfl
theorem ml_91 : Cond.selects RX3 yX3_round yX3_round ∈ e_tbl := e_tbl_mem (List.mem_of_getElem? (i := 532) (by decide +kernel)) rfl
theorem ml_92 : Cond.methodLink RL 62 yX3_round ∈ e_tbl := e_tbl_mem (List.mem_of_getElem? (i := 530) (by decide +kernel)) rfl
theorem ml_93 : Cond.instanceMethod yX3_round ∈ e_tbl := e_tbl_mem (List.mem_of_getElem? (i := 531) (by decide +kernel)) rfl
theorem ml_94 : Cond.code yX4_round cX4_round 3 (some .int) ∈ e_tbl := e_tbl_mem (List.mem_of_getElem? (i := 942) (by decide +kernel)) rfl
theorem ml_95 : Cond.selects RX4 yX4_round yX4_round ∈ e_tbl := e_tbl_mem (List.mem_of_getElem? (i := 941) (by decide +kernel)) rfl
theorem ml_96 : Cond.methodLink RL 65 yX4_round ∈ e_tbl := e_tbl_mem (List.mem_of_getElem? (i := 939) (by decide +kernel)) rfl
theorem ml_97 : Cond.instanceMethod yX4_round ∈ e_tbl := e_tbl_mem (List.mem_of_getElem? (i := 940) (by decide +kernel)) rfl
theorem ml_98 : Cond.code yX3_has cX3_has 4 (some .int) ∈ e_tbl := e_tbl_mem (List.mem_of_getElem? (i := 537) (by decide +kernel)) rfl
theorem ml_99 : Cond.selects RX3 yX3_has yX3_has ∈ e_tbl := e_tbl_mem (List.mem_of_getElem? (i := 536) (by decide +kernel)) rfl
theorem ml_100 : Cond.methodLink RL 66 yX3_has ∈ e_tbl := e_tbl_mem (List.mem_of_getElem? (i := 534) (by decide +kernel)) rfl
theorem ml_101 : Cond.instanceMethod yX3_has ∈ e_tbl := e_tbl_mem (List.mem_of_getElem? (i := 535) (by decide +kernel)) rfl
theorem ml_102 : Cond.code yX4_has cX4_has 4 (some .int) ∈ e_tbl := e_tbl_mem (List.mem_of_getElem? (i := 946) (by decide +kernel)) rfl
theorem ml_103 : Cond.selects RX4 yX4_has yX4_has ∈ e_tbl := e_tbl_mem (List.mem_of_getElem? (i := 945) (by decide +kernel)) rfl
theorem ml_104 : Cond.methodLink RL 69 yX4_has ∈ e_tbl := e_tbl_mem (List.mem_of_getElem? (i := 943) (by decide +kernel)) rfl
theorem ml_105 : Cond.instanceMethod yX4_has ∈ e_tbl := e_tbl_mem (List.mem_of_getElem? (i := 944) (by decide +kernel)) rfl
theorem ml_106 : Cond.code yX3_best cX3_best 9 (some .int) ∈ e_tbl := e_tbl_mem (List.mem_of_getElem? (i := 572) (by decide +kernel)) rfl
theorem ml_107 : Cond.selects RX3 yX3_best yX3_best ∈ e_tbl := e_tbl_mem (List.mem_of_getElem? (i := 571) (by decide +kernel)) rfl
theorem ml_108 : Cond.methodLink RL 70 yX3_best ∈ e_tbl := e_tbl_mem (List.mem_of_getElem? (i := 569) (by decide +kernel)) rfl
theorem ml_109 : Cond.instanceMethod yX3_best ∈ e_tbl := e_tbl_mem (List.mem_of_getElem? (i := 570) (by decide +kernel)) rfl
theorem ml_110 : Cond.code yX4_best cX4_best 3 (some .int) ∈ e_tbl := e_tbl_mem (List.mem_of_getElem? (i := 966) (by decide +kernel)) rfl
theorem ml_111 : Cond.selects RX4 yX4_best yX4_best ∈ e_tbl := e_tbl_mem (List.mem_of_getElem? (i := 965) (by decide +kernel)) rfl
theorem ml_112 : Cond.methodLink RL 73 yX4_best ∈ e_tbl := e_tbl_mem (List.mem_of_getElem? (i := 963) (by decide +kernel)) rfl
theorem ml_113 : Cond.instanceMethod yX4_best ∈ e_tbl := e_tbl_mem (List.mem_of_getElem? (i := 964) (by decide +kernel)) rfl
theorem ml_114 : Cond.code yX3_rest cX3_rest 2 (some .int) ∈ e_tbl := e_tbl_mem (List.mem_of_getElem? (i := 580) (by decide +kernel)) rfl
theorem ml_115 : Cond.selects RX3 yX3_rest yX3_rest ∈ e_tbl := e_tbl_mem (List.mem_of_getElem? (i := 579) (by decide +kernel)) rfl
theorem ml_116 : Cond.methodLink RL 74 yX3_rest ∈ e_tbl := e_tbl_mem (List.mem_of_getElem? (i := 577) (by decide +kernel)) rfl
theorem ml_117 : Cond.instanceMethod yX3_rest ∈ e_tbl := e_tbl_mem (List.mem_of_getElem? (i := 578) (by decide +kernel)) rfl
theorem ml_118 : Cond.code yX4_rest cX4_rest 2 (some .int) ∈ e_tbl := e_tbl_mem (List.mem_of_getElem? (i := 978) (by decide +kernel)) rfl
theorem ml_119 : Cond.selects RX4 yX4_rest yX4_rest ∈ e_tbl := e_tbl_mem (List.mem_of_getElem? (i := 977) (by decide +kernel)) rfl
theorem ml_120 : Cond.methodLink RL 77 yX4_rest ∈ e_tbl := e_tbl_mem (List.mem_of_getElem? (i := 975) (by decide +kernel)) rfl
theorem ml_121 : Cond.instanceMethod yX4_rest ∈ e_tbl := e_tbl_mem (List.mem_of_getElem? (i := 976) (by decide +kernel)) rfl
theorem ml_122 : Cond.code yX3_lose cX3_lose 5 (some .int) ∈ e_tbl := e_tbl_mem (List.mem_of_getElem? (i := 600) (by decide +kernel)) rfl
theorem ml_123 : Cond.selects RX3 yX3_lose yX3_lose ∈ e_tbl := e_tbl_mem (List.mem_of_getElem? (i := 599) (by decide +kernel)) rfl
theorem ml_124 : Cond.methodLink RL 78 yX3_lose ∈ e_tbl := e_tbl_mem (List.mem_of_getElem? (i := 597) (by decide +kernel)) rfl
theorem ml_125 : Cond.instanceMethod yX3_lose ∈ e_tbl := e_tbl_mem (List.mem_of_getElem? (i := 598) (by decide +kernel)) rfl
theorem ml_126 : Cond.code yX4_lose cX4_lose 5 (some .int) ∈ e_tbl := e_tbl_mem (List.mem_of_getElem? (i := 994) (by decide +kernel)) rfl
theorem ml_127 : Cond.selects RX4 yX4_lose yX4_lose ∈ e_tbl := e_tbl_mem (List.mem_of_getElem? (i := 993) (by decide +kernel)) rfl
theorem ml_128 : Cond.methodLink RL 81 yX4_lose ∈ e_tbl := e_tbl_mem (List.mem_of_getElem? (i := 991) (by decide +kernel)) rfl
theorem ml_129 : Cond.instanceMethod yX4_lose ∈ e_tbl := e_tbl_mem (List.mem_of_getElem? (i := 992) (by decide +kernel)) rfl
theorem ml_130 : Cond.code yX3_weight cX3_weight 6 (some .int) ∈ e_tbl := e_tbl_mem (List.mem_of_getElem? (i := 608) (by decide +kernel)) rfl
theorem ml_131 : Cond.selects RX3 yX3_weight yX3_weight ∈ e_tbl := e_tbl_mem (List.mem_of_getElem? (i := 607) (by decide +kernel)) rfl
theorem ml_132 : Cond.methodLink RL 82 yX3_weight ∈ e_tbl := e_tbl_mem (List.mem_of_getElem? (i := 605) (by decide +kernel)) rfl
theorem ml_133 : Cond.instanceMethod yX3_weight ∈ e_tbl := e_tbl_mem (List.mem_of_getElem? (i := 606) (by decide +kernel)) rfl
theorem ml_134 : Cond.code yX4_weight cX4_weight 5 (some .int) ∈ e_tbl := e_tbl_mem (List.mem_of_getElem? (i := 998) (by decide +kernel)) rfl
theorem ml_135 : Cond.selects RX4 yX4_weight yX4_weight ∈ e_tbl := e_tbl_mem (List.mem_of_getElem? (i := 997) (by decide +kernel)) rfl
theorem ml_136 : Cond.methodLink RL 85 yX4_weight ∈ e_tbl := e_tbl_mem (List.mem_of_getElem? (i := 995) (by decide +kernel)) rfl
theorem ml_137 : Cond.instanceMethod yX4_weight ∈ e_tbl := e_tbl_mem (List.mem_of_getElem? (i := 996) (by decide +kernel)) rfl
theorem ml_138 : Cond.code yX3_thought cX3_thought 9 (some .int) ∈ e_tbl := e_tbl_mem (List.mem_of_getElem? (i := 612) (by decide +kernel)) rfl
theorem ml_139 : Cond.selects RX3 yX3_thought yX3_thought ∈ e_tbl := e_tbl_mem (List.mem_of_getElem? (i := 611) (by decide +kernel)) rfl
theorem ml_140 : Cond.methodLink RL 86 yX3_thought ∈ e_tbl := e_tbl_mem (List.mem_of_getElem? (i := 609) (by decide +kernel)) rfl
theorem ml_141 : Cond.instanceMethod yX3_thought ∈ e_tbl := e_tbl_mem (List.mem_of_getElem? (i := 610) (by decide +kernel)) rfl
theorem ml_142 : Cond.code yX4_thought cX4_thought 10 (some .int) ∈ e_tbl := e_tbl_mem (List.mem_of_getElem? (i := 1002) (by decide +kernel)) rfl
theorem ml_143 : Cond.selects RX4 yX4_thought yX4_thought ∈ e_tbl := e_tbl_mem (List.mem_of_getElem? (i := 1001) (by decide +kernel)) rfl
theorem ml_144 : Cond.methodLink RL 89 yX4_thought ∈ e_tbl := e_tbl_mem (List.mem_of_getElem? (i := 999) (by decide +kernel)) rfl
theorem ml_145 : Cond.instanceMethod yX4_thought ∈ e_tbl := e_tbl_mem (List.mem_of_getElem? (i := 1000) (by decide +kernel)) rfl
theorem ml_146 : Cond.code yX3_paid cX3_paid 14 (some .int) ∈ e_tbl := e_tbl_mem (List.mem_of_getElem? (i := 624) (by decide +kernel)) rfl
theorem ml_147 : Cond.selects RX3 yX3_paid yX3_paid ∈ e_tbl := e_tbl_mem (List.mem_of_getElem? (i := 623) (by decide +kernel)) rfl
theorem ml_148 : Cond.methodLink RL 90 yX3_paid ∈ e_tbl := e_tbl_mem (List.mem_of_getElem? (i := 621) (by decide +kernel)) rfl
theorem ml_149 : Cond.instanceMethod yX3_paid ∈ e_tbl := e_tbl_mem (List.mem_of_getElem? (i := 622) (by decide +kernel)) rfl
theorem ml_150 : Cond.code yX4_paid cX4_paid 12 (some .int) ∈ e_tbl := e_tbl_mem (List.mem_of_getElem? (i := 1006) (by decide +kernel)) rfl
theorem ml_151 : Cond.selects RX4 yX4_paid yX4_paid ∈ e_tbl := e_tbl_mem (List.mem_of_getElem? (i := 1005) (by decide +kernel)) rfl
theorem ml_152 : Cond.methodLink RL 93 yX4_paid ∈ e_tbl := e_tbl_mem (List.mem_of_getElem? (i := 1003) (by decide +kernel)) rfl
theorem ml_153 : Cond.instanceMethod yX4_paid ∈ e_tbl := e_tbl_mem (List.mem_of_getElem? (i := 1004) (by decide +kernel)) rfl
theorem ml_154 : Cond.code yX3_hard cX3_hard 8 (some .int) ∈ e_tbl := e_tbl_mem (List.mem_of_getElem? (i := 628) (by decide +kernel)) rfl
theorem ml_155 : Cond.selects RX3 yX3_hard yX3_hard ∈ e_tbl := e_tbl_mem (List.mem_of_getElem? (i := 627) (by decide +kernel)) rfl
theorem ml_156 : Cond.methodLink RL 94 yX3_hard ∈ e_tbl := e_tbl_mem (List.mem_of_getElem? (i := 625) (by decide +kernel)) rfl
theorem ml_157 : Cond.instanceMethod yX3_hard ∈ e_tbl := e_tbl_mem (List.mem_of_getElem? (i := 626) (by decide +kernel)) rfl
theorem ml_158 : Cond.code yX4_hard cX4_hard 8 (some .int) ∈ e_tbl := e_tbl_mem (List.mem_of_getElem? (i := 1010) (by decide +kernel)) rfl
theorem ml_159 : Cond.selects RX4 yX4_hard yX4_hard ∈ e_tbl := e_tbl_mem (List.mem_of_getElem? (i := 1009) (by decide +kernel)) rfl
theorem ml_160 : Cond.methodLink RL 97 yX4_hard ∈ e_tbl := e_tbl_mem (List.mem_of_getElem? (i := 1007) (by decide +kernel)) rfl
theorem ml_161 : Cond.instanceMethod yX4_hard ∈ e_tbl := e_tbl_mem (List.mem_of_getElem? (i := 1008) (by decide +kernel)) rfl
theorem ml_162 : Cond.code yX3_committee cX3_committee 6 (some .int) ∈ e_tbl := e_tbl_mem (List.mem_of_getElem? (i := 632) (by decide +kernel)) rfl
theorem ml_163 : Cond.selects RX3 yX3_committee yX3_committee ∈ e_tbl := e_tbl_mem (List.mem_of_getElem? (i := 631) (by decide +kernel)) rfl
theorem ml_164 : Cond.methodLink RL 98 yX3_committee ∈ e_tbl := e_tbl_mem (List.mem_of_getElem? (i := 629) (by decide +kernel)) rfl
theorem ml_165 : Cond.instanceMethod yX3_committee ∈ e_tbl := e_tbl_mem (List.mem_of_getElem? (i := 630) (by decide +kernel)) rfl
theorem ml_166 : Cond.code yX4_committee cX4_committee 8 (some .int) ∈ e_tbl := e_tbl_mem (List.mem_of_getElem? (i := 1014) (by decide +kernel)) rfl
theorem ml_167 : Cond.selects RX4 yX4_committee yX4_committee ∈ e_tbl := e_tbl_mem (List.mem_of_getElem? (i := 1013) (by decide +kernel)) rfl
theorem ml_168 : Cond.methodLink RL 101 yX4_committee ∈ e_tbl := e_tbl_mem (List.mem_of_getElem? (i := 1011) (by decide +kernel)) rfl
theorem ml_169 : Cond.instanceMethod yX4_committee ∈ e_tbl := e_tbl_mem (List.mem_of_getElem? (i := 1012) (by decide +kernel)) rfl
theorem ml_170 : Cond.code yX3_recall cX3_recall 5 (some .int) ∈ e_tbl := e_tbl_mem (List.mem_of_getElem? (i := 646) (by decide +kernel)) rfl
theorem ml_171 : Cond.selects RX3 yX3_recall yX3_recall ∈ e_tbl := e_tbl_mem (List.mem_of_getElem? (i := 645) (by decide +kernel)) rfl
theorem ml_172 : Cond.methodLink RL 102 yX3_recall ∈ e_tbl := e_tbl_mem (List.mem_of_getElem? (i := 643) (by decide +kernel)) rfl
theorem ml_173 : Cond.instanceMethod yX3_recall ∈ e_tbl := e_tbl_mem (List.mem_of_getElem? (i := 644) (by decide +kernel)) rfl
theorem ml_174 : Cond.code yX4_recall cX4_recall 6 (some .int) ∈ e_tbl := e_tbl_mem (List.mem_of_getElem? (i := 1018) (by decide +kernel)) rfl
theorem ml_175 : Cond.selects RX4 yX4_recall yX4_recall ∈ e_tbl := e_tbl_mem (List.mem_of_getElem? (i := 1017) (by decide +kernel)) rfl
theorem ml_176 : Cond.methodLink RL 105 yX4_recall ∈ e_tbl := e_tbl_mem (List.mem_of_getElem? (i := 1015) (by decide +kernel)) rfl
theorem ml_177 : Cond.instanceMethod yX4_recall ∈ e_tbl := e_tbl_mem (List.mem_of_getElem? (i := 1016) (by decide +kernel)) rfl
theorem ml_178 : Cond.code yX3_middle cX3_middle 10 (some .int) ∈ e_tbl := e_tbl_mem (List.mem_of_getElem? (i := 651) (by decide +kernel)) rfl
theorem ml_179 : Cond.selects RX3 yX3_middle yX3_middle ∈ e_tbl := e_tbl_mem (List.mem_of_getElem? (i := 650) (by decide +kernel)) rfl
theorem ml_180 : Cond.methodLink RL 106 yX3_middle ∈ e_tbl := e_tbl_mem (List.mem_of_getElem? (i := 648) (by decide +kernel)) rfl
theorem ml_181 : Cond.instanceMethod yX3_middle ∈ e_tbl := e_tbl_mem (List.mem_of_getElem? (i := 649) (by decide +kernel)) rfl
theorem ml_182 : Cond.code yX4_middle cX4_middle 8 (some .int) ∈ e_tbl := e_tbl_mem (List.mem_of_getElem? (i := 1022) (by decide +kernel)) rfl
theorem ml_183 : Cond.selects RX4 yX4_middle yX4_middle ∈ e_tbl := e_tbl_mem (List.mem_of_getElem? (i := 1021) (by decide +kernel)) rfl
theorem ml_184 : Cond.methodLink RL 109 yX4_middle ∈ e_tbl := e_tbl_mem (List.mem_of_getElem? (i := 1019) (by decide +kernel)) rfl
theorem ml_185 : Cond.instanceMethod yX4_middle ∈ e_tbl := e_tbl_mem (List.mem_of_getElem? (i := 1020) (by decide +kernel)) rfl
theorem ml_186 : Cond.code yX3_edge cX3_edge 7 (some .int) ∈ e_tbl := e_tbl_mem (List.mem_of_getElem? (i := 655) (by decide +kernel)) rfl
theorem ml_187 : Cond.selects RX3 yX3_edge yX3_edge ∈ e_tbl := e_tbl_mem (List.mem_of_getElem? (i := 654) (by decide +kernel)) rfl
theorem ml_188 : Cond.methodLink RL 110 yX3_edge ∈ e_tbl := e_tbl_mem (List.mem_of_getElem? (i := 652) (by decide +kernel)) rfl
theorem ml_189 : Cond.instanceMethod yX3_edge ∈ e_tbl := e_tbl_mem (List.mem_of_getElem? (i := 653) (by decide +kernel)) rfl
theorem ml_190 : Cond.code yX4_edge cX4_edge 6 (some .int) ∈ e_tbl := e_tbl_mem (List.mem_of_getElem? (i := 1026) (by decide +kernel)) rfl
theorem ml_191 : Cond.selects RX4 yX4_edge yX4_edge ∈ e_tbl := e_tbl_mem (List.mem_of_getElem? (i := 1025) (by decide +kernel)) rfl
theorem ml_192 : Cond.methodLink RL 113 yX4_edge ∈ e_tbl := e_tbl_mem (List.mem_of_getElem? (i := 1023) (by decide +kernel)) rfl
theorem ml_193 : Cond.instanceMethod yX4_edge ∈ e_tbl := e_tbl_mem (List.mem_of_getElem? (i := 1024) (by decide +kernel)) rfl
theorem ml_194 : Cond.code yX3_part cX3_part 2 (some .long) ∈ e_tbl := e_tbl_mem (List.mem_of_getElem? (i := 663) (by decide +kernel)) rfl
theorem ml_195 : Cond.selects RX3 yX3_part yX3_part ∈ e_tbl := e_tbl_mem (List.mem_of_getElem? (i := 662) (by decide +kernel)) rfl
theorem ml_196 : Cond.methodLink RL 114 yX3_part ∈ e_tbl := e_tbl_mem (List.mem_of_getElem? (i := 660) (by decide +kernel)) rfl
theorem ml_197 : Cond.instanceMethod yX3_part ∈ e_tbl := e_tbl_mem (List.mem_of_getElem? (i := 661) (by decide +kernel)) rfl
theorem ml_198 : Cond.code yX4_part cX4_part 2 (some .long) ∈ e_tbl := e_tbl_mem (List.mem_of_getElem? (i := 1030) (by decide +kernel)) rfl
theorem ml_199 : Cond.selects RX4 yX4_part yX4_part ∈ e_tbl := e_tbl_mem (List.mem_of_getElem? (i := 1029) (by decide +kernel)) rfl
theorem ml_200 : Cond.methodLink RL 118 yX4_part ∈ e_tbl := e_tbl_mem (List.mem_of_getElem? (i := 1027) (by decide +kernel)) rfl
theorem ml_201 : Cond.instanceMethod yX4_part ∈ e_tbl := e_tbl_mem (List.mem_of_getElem? (i := 1028) (by decide +kernel)) rfl
theorem ml_202 : Cond.code yX3_count cX3_count 2 (some .int) ∈ e_tbl := e_tbl_mem (List.mem_of_getElem? (i := 668) (by decide +kernel)) rfl
theorem ml_203 : Cond.selects RX3 yX3_count yX3_count ∈ e_tbl := e_tbl_mem (List.mem_of_getElem? (i := 667) (by decide +kernel)) rfl
theorem ml_204 : Cond.methodLink RL 119 yX3_count ∈ e_tbl := e_tbl_mem (List.mem_of_getElem? (i := 665) (by decide +kernel)) rfl
theorem ml_205 : Cond.instanceMethod yX3_count ∈ e_tbl := e_tbl_mem (List.mem_of_getElem? (i := 666) (by decide +kernel)) rfl
theorem ml_206 : Cond.code yX4_count cX4_count 2 (some .int) ∈ e_tbl := e_tbl_mem (List.mem_of_getElem? (i := 1035) (by decide +kernel)) rfl
theorem ml_207 : Cond.selects RX4 yX4_count yX4_count ∈ e_tbl := e_tbl_mem (List.mem_of_getElem? (i := 1034) (by decide +kernel)) rfl
theorem ml_208 : Cond.methodLink RL 122 yX4_count ∈ e_tbl := e_tbl_mem (List.mem_of_getElem? (i := 1032) (by decide +kernel)) rfl
theorem ml_209 : Cond.instanceMethod yX4_count ∈ e_tbl := e_tbl_mem (List.mem_of_getElem? (i := 1033) (by decide +kernel)) rfl
theorem ml_210 : Cond.code yX3_digest cX3_digest 5 (some .long) ∈ e_tbl := e_tbl_mem (List.mem_of_getElem? (i := 672) (by decide +kernel)) rfl
theorem ml_211 : Cond.selects RX3 yX3_digest yX3_digest ∈ e_tbl := e_tbl_mem (List.mem_of_getElem? (i := 671) (by decide +kernel)) rfl
theorem ml_212 : Cond.methodLink RL 123 yX3_digest ∈ e_tbl := e_tbl_mem (List.mem_of_getElem? (i := 669) (by decide +kernel)) rfl
theorem ml_213 : Cond.instanceMethod yX3_digest ∈ e_tbl := e_tbl_mem (List.mem_of_getElem? (i := 670) (by decide +kernel)) rfl
theorem ml_214 : Cond.code yX4_digest cX4_digest 6 (some .long) ∈ e_tbl := e_tbl_mem (List.mem_of_getElem? (i := 1039) (by decide +kernel)) rfl
theorem ml_215 : Cond.selects RX4 yX4_digest yX4_digest ∈ e_tbl := e_tbl_mem (List.mem_of_getElem? (i := 1038) (by decide +kernel)) rfl
theorem ml_216 : Cond.methodLink RL 127 yX4_digest ∈ e_tbl := e_tbl_mem (List.mem_of_getElem? (i := 1036) (by decide +kernel)) rfl
theorem ml_217 : Cond.instanceMethod yX4_digest ∈ e_tbl := e_tbl_mem (List.mem_of_getElem? (i := 1037) (by decide +kernel)) rfl
def kL_law (L : Nat) (xs : Nat → Int32) : e_Cd := [[(16, o_const (.int 0) 17), (17, o_istore 3 18), (18, o_iload 3 19), (19, o_aload 0 20), (20, o_slen L 21), (21, o_const (.int 5) 22), (22, o_ib (fun x y => x - y) 23), (23, o_ic (fun x y => decide (y < x)) 1015 26), (26, o_aload 0 27), (27, o_iload 3 28), (28, o_sld L xs 29), (29, o_const (.int 31) 31), (31, o_ib (fun x y => x &&& y) 32), (32, o_sw [(0, 156), (1, 179), (2, 202), (3, 255), (4, 298), (5, 341), (6, 374), (7, 407), (8, 430), (9, 443), (10, 456), (11, 489), (12, 522), (13, 565), (14, 598), (15, 621), (16, 644), (17, 687), (18, 710), (19, 753), (20, 796), (21, 839), (22, 882), (23, 925), (24, 948), (25, 972), (26, 995)] 1009)],
  [],
  [(156, o_aload 1 157), (157, o_aload 0 158), (158, o_iload 3 159), (159, o_const (.int 1) 160), (160, o_ib (fun x y => x + y) 161), (161, o_sld L xs 162), (162, o_cV 3 31 1 165), (165, o_aload 2 166), (166, o_aload 0 167), (167, o_iload 3 168), (168, o_const (.int 1) 169), (169, o_ib (fun x y => x + y) 170), (170, o_sld L xs 171), (171, o_cV 4 89 1 174), (174, o_ic (fun x y => decide (x = y)) 1009 177), (177, o_const (.int 0) 178), (178, o_retZ), (179, o_aload 1 180), (180, o_aload 0 181), (181, o_iload 3 182), (182, o_const (.int 1) 183), (183, o_ib (fun x y => x + y) 184), (184, o_sld L xs 185), (185, o_cV 3 32 1 188), (188, o_aload 2 189), (189, o_aload 0 190), (190, o_iload 3 191), (191, o_const (.int 1) 192)],
  [(192, o_ib (fun x y => x + y) 193), (193, o_sld L xs 194), (194, o_cV 4 90 1 197), (197, o_ic (fun x y => decide (x = y)) 1009 200), (200, o_const (.int 0) 201), (201, o_retZ), (202, o_aload 1 203), (203, o_aload 0 204), (204, o_iload 3 205), (205, o_const (.int 1) 206), (206, o_ib (fun x y => x + y) 207), (207, o_sld L xs 208), (208, o_aload 0 209), (209, o_iload 3 210), (210, o_const (.int 2) 211), (211, o_ib (fun x y => x + y) 212), (212, o_sld L xs 213), (213, o_aload 0 214), (214, o_iload 3 215), (215, o_const (.int 3) 216), (216, o_ib (fun x y => x + y) 217), (217, o_sld L xs 218), (218, o_aload 0 219), (219, o_iload 3 220), (220, o_const (.int 4) 221), (221, o_ib (fun x y => x + y) 222), (222, o_sld L xs 223), (223, o_cV 3 33 4 226), (226, o_aload 2 227), (227, o_aload 0 228), (228, o_iload 3 229), (229, o_const (.int 1) 230), (230, o_ib (fun x y => x + y) 231), (231, o_sld L xs 232), (232, o_aload 0 233), (233, o_iload 3 234), (234, o_const (.int 2) 235), (235, o_ib (fun x y => x + y) 236), (236, o_sld L xs 237), (237, o_aload 0 238), (238, o_iload 3 239), (239, o_const (.int 3) 240), (240, o_ib (fun x y => x + y) 241), (241, o_sld L xs 242), (242, o_aload 0 243), (243, o_iload 3 244), (244, o_const (.int 4) 245), (245, o_ib (fun x y => x + y) 246), (246, o_sld L xs 247), (247, o_cV 4 92 4 250), (250, o_ic (fun x y => decide (x = y)) 1009 253), (253, o_const (.int 0) 254), (254, o_retZ), (255, o_aload 1 256)],
  [(256, o_aload 0 257), (257, o_iload 3 258), (258, o_const (.int 1) 259), (259, o_ib (fun x y => x + y) 260), (260, o_sld L xs 261), (261, o_aload 0 262), (262, o_iload 3 263), (263, o_const (.int 2) 264), (264, o_ib (fun x y => x + y) 265), (265, o_sld L xs 266), (266, o_aload 0 267), (267, o_iload 3 268), (268, o_const (.int 3) 269), (269, o_ib (fun x y => x + y) 270), (270, o_sld L xs 271), (271, o_cV 3 34 3 274), (274, o_aload 2 275), (275, o_aload 0 276), (276, o_iload 3 277), (277, o_const (.int 1) 278), (278, o_ib (fun x y => x + y) 279), (279, o_sld L xs 280), (280, o_aload 0 281), (281, o_iload 3 282), (282, o_const (.int 2) 283), (283, o_ib (fun x y => x + y) 284), (284, o_sld L xs 285), (285, o_aload 0 286), (286, o_iload 3 287), (287, o_const (.int 3) 288), (288, o_ib (fun x y => x + y) 289), (289, o_sld L xs 290), (290, o_cV 4 96 3 293), (293, o_ic (fun x y => decide (x = y)) 1009 296), (296, o_const (.int 0) 297), (297, o_retZ), (298, o_aload 1 299), (299, o_aload 0 300), (300, o_iload 3 301), (301, o_const (.int 1) 302), (302, o_ib (fun x y => x + y) 303), (303, o_sld L xs 304), (304, o_aload 0 305), (305, o_iload 3 306), (306, o_const (.int 2) 307), (307, o_ib (fun x y => x + y) 308), (308, o_sld L xs 309), (309, o_aload 0 310), (310, o_iload 3 311), (311, o_const (.int 3) 312), (312, o_ib (fun x y => x + y) 313), (313, o_sld L xs 314), (314, o_cV 3 35 3 317), (317, o_aload 2 318), (318, o_aload 0 319), (319, o_iload 3 320)],
  [(320, o_const (.int 1) 321), (321, o_ib (fun x y => x + y) 322), (322, o_sld L xs 323), (323, o_aload 0 324), (324, o_iload 3 325), (325, o_const (.int 2) 326), (326, o_ib (fun x y => x + y) 327), (327, o_sld L xs 328), (328, o_aload 0 329), (329, o_iload 3 330), (330, o_const (.int 3) 331), (331, o_ib (fun x y => x + y) 332), (332, o_sld L xs 333), (333, o_cV 4 97 3 336), (336, o_ic (fun x y => decide (x = y)) 1009 339), (339, o_const (.int 0) 340), (340, o_retZ), (341, o_aload 1 342), (342, o_aload 0 343), (343, o_iload 3 344), (344, o_const (.int 1) 345), (345, o_ib (fun x y => x + y) 346), (346, o_sld L xs 347), (347, o_aload 0 348), (348, o_iload 3 349), (349, o_const (.int 2) 350), (350, o_ib (fun x y => x + y) 351), (351, o_sld L xs 352), (352, o_cV 3 36 2 355), (355, o_aload 2 356), (356, o_aload 0 357), (357, o_iload 3 358), (358, o_const (.int 1) 359), (359, o_ib (fun x y => x + y) 360), (360, o_sld L xs 361), (361, o_aload 0 362), (362, o_iload 3 363), (363, o_const (.int 2) 364), (364, o_ib (fun x y => x + y) 365), (365, o_sld L xs 366), (366, o_cV 4 98 2 369), (369, o_ic (fun x y => decide (x = y)) 1009 372), (372, o_const (.int 0) 373), (373, o_retZ), (374, o_aload 1 375), (375, o_aload 0 376), (376, o_iload 3 377), (377, o_const (.int 1) 378), (378, o_ib (fun x y => x + y) 379), (379, o_sld L xs 380), (380, o_aload 0 381), (381, o_iload 3 382), (382, o_const (.int 2) 383), (383, o_ib (fun x y => x + y) 384)],
  [(384, o_sld L xs 385), (385, o_cV 3 37 2 388), (388, o_aload 2 389), (389, o_aload 0 390), (390, o_iload 3 391), (391, o_const (.int 1) 392), (392, o_ib (fun x y => x + y) 393), (393, o_sld L xs 394), (394, o_aload 0 395), (395, o_iload 3 396), (396, o_const (.int 2) 397), (397, o_ib (fun x y => x + y) 398), (398, o_sld L xs 399), (399, o_cV 4 99 2 402), (402, o_ic (fun x y => decide (x = y)) 1009 405), (405, o_const (.int 0) 406), (406, o_retZ), (407, o_aload 1 408), (408, o_aload 0 409), (409, o_iload 3 410), (410, o_const (.int 1) 411), (411, o_ib (fun x y => x + y) 412), (412, o_sld L xs 413), (413, o_cV 3 38 1 416), (416, o_aload 2 417), (417, o_aload 0 418), (418, o_iload 3 419), (419, o_const (.int 1) 420), (420, o_ib (fun x y => x + y) 421), (421, o_sld L xs 422), (422, o_cV 4 100 1 425), (425, o_ic (fun x y => decide (x = y)) 1009 428), (428, o_const (.int 0) 429), (429, o_retZ), (430, o_aload 1 431), (431, o_cV 3 39 0 434), (434, o_aload 2 435), (435, o_cV 4 101 0 438), (438, o_ic (fun x y => decide (x = y)) 1009 441), (441, o_const (.int 0) 442), (442, o_retZ), (443, o_aload 1 444), (444, o_cV 3 40 0 447), (447, o_aload 2 448)],
  [(448, o_cV 4 110 0 451), (451, o_ic (fun x y => decide (x = y)) 1009 454), (454, o_const (.int 0) 455), (455, o_retZ), (456, o_aload 1 457), (457, o_aload 0 458), (458, o_iload 3 459), (459, o_const (.int 1) 460), (460, o_ib (fun x y => x + y) 461), (461, o_sld L xs 462), (462, o_aload 0 463), (463, o_iload 3 464), (464, o_const (.int 2) 465), (465, o_ib (fun x y => x + y) 466), (466, o_sld L xs 467), (467, o_cV 3 41 2 470), (470, o_aload 2 471), (471, o_aload 0 472), (472, o_iload 3 473), (473, o_const (.int 1) 474), (474, o_ib (fun x y => x + y) 475), (475, o_sld L xs 476), (476, o_aload 0 477), (477, o_iload 3 478), (478, o_const (.int 2) 479), (479, o_ib (fun x y => x + y) 480), (480, o_sld L xs 481), (481, o_cV 4 121 2 484), (484, o_ic (fun x y => decide (x = y)) 1009 487), (487, o_const (.int 0) 488), (488, o_retZ), (489, o_aload 1 490), (490, o_aload 0 491), (491, o_iload 3 492), (492, o_const (.int 1) 493), (493, o_ib (fun x y => x + y) 494), (494, o_sld L xs 495), (495, o_aload 0 496), (496, o_iload 3 497), (497, o_const (.int 2) 498), (498, o_ib (fun x y => x + y) 499), (499, o_sld L xs 500), (500, o_cV 3 42 2 503), (503, o_aload 2 504), (504, o_aload 0 505), (505, o_iload 3 506), (506, o_const (.int 1) 507), (507, o_ib (fun x y => x + y) 508), (508, o_sld L xs 509), (509, o_aload 0 510), (510, o_iload 3 511), (511, o_const (.int 2) 512)],
  [(512, o_ib (fun x y => x + y) 513), (513, o_sld L xs 514), (514, o_cV 4 122 2 517), (517, o_ic (fun x y => decide (x = y)) 1009 520), (520, o_const (.int 0) 521), (521, o_retZ), (522, o_aload 1 523), (523, o_aload 0 524), (524, o_iload 3 525), (525, o_const (.int 1) 526), (526, o_ib (fun x y => x + y) 527), (527, o_sld L xs 528), (528, o_aload 0 529), (529, o_iload 3 530), (530, o_const (.int 2) 531), (531, o_ib (fun x y => x + y) 532), (532, o_sld L xs 533), (533, o_aload 0 534), (534, o_iload 3 535), (535, o_const (.int 3) 536), (536, o_ib (fun x y => x + y) 537), (537, o_sld L xs 538), (538, o_cV 3 43 3 541), (541, o_aload 2 542), (542, o_aload 0 543), (543, o_iload 3 544), (544, o_const (.int 1) 545), (545, o_ib (fun x y => x + y) 546), (546, o_sld L xs 547), (547, o_aload 0 548), (548, o_iload 3 549), (549, o_const (.int 2) 550), (550, o_ib (fun x y => x + y) 551), (551, o_sld L xs 552), (552, o_aload 0 553), (553, o_iload 3 554), (554, o_const (.int 3) 555), (555, o_ib (fun x y => x + y) 556), (556, o_sld L xs 557), (557, o_cV 4 127 3 560), (560, o_ic (fun x y => decide (x = y)) 1009 563), (563, o_const (.int 0) 564), (564, o_retZ), (565, o_aload 1 566), (566, o_aload 0 567), (567, o_iload 3 568), (568, o_const (.int 1) 569), (569, o_ib (fun x y => x + y) 570), (570, o_sld L xs 571), (571, o_aload 0 572), (572, o_iload 3 573), (573, o_const (.int 2) 574), (574, o_ib (fun x y => x + y) 575), (575, o_sld L xs 576)],
  [(576, o_cV 3 44 2 579), (579, o_aload 2 580), (580, o_aload 0 581), (581, o_iload 3 582), (582, o_const (.int 1) 583), (583, o_ib (fun x y => x + y) 584), (584, o_sld L xs 585), (585, o_aload 0 586), (586, o_iload 3 587), (587, o_const (.int 2) 588), (588, o_ib (fun x y => x + y) 589), (589, o_sld L xs 590), (590, o_cV 4 130 2 593), (593, o_ic (fun x y => decide (x = y)) 1009 596), (596, o_const (.int 0) 597), (597, o_retZ), (598, o_aload 1 599), (599, o_aload 0 600), (600, o_iload 3 601), (601, o_const (.int 1) 602), (602, o_ib (fun x y => x + y) 603), (603, o_sld L xs 604), (604, o_cV 3 45 1 607), (607, o_aload 2 608), (608, o_aload 0 609), (609, o_iload 3 610), (610, o_const (.int 1) 611), (611, o_ib (fun x y => x + y) 612), (612, o_sld L xs 613), (613, o_cV 4 134 1 616), (616, o_ic (fun x y => decide (x = y)) 1009 619), (619, o_const (.int 0) 620), (620, o_retZ), (621, o_aload 1 622), (622, o_aload 0 623), (623, o_iload 3 624), (624, o_const (.int 1) 625), (625, o_ib (fun x y => x + y) 626), (626, o_sld L xs 627), (627, o_cV 3 46 1 630), (630, o_aload 2 631), (631, o_aload 0 632), (632, o_iload 3 633), (633, o_const (.int 1) 634), (634, o_ib (fun x y => x + y) 635), (635, o_sld L xs 636), (636, o_cV 4 135 1 639), (639, o_ic (fun x y => decide (x = y)) 1009 642)],
  [(642, o_const (.int 0) 643), (643, o_retZ), (644, o_aload 1 645), (645, o_aload 0 646), (646, o_iload 3 647), (647, o_const (.int 1) 648), (648, o_ib (fun x y => x + y) 649), (649, o_sld L xs 650), (650, o_aload 0 651), (651, o_iload 3 652), (652, o_const (.int 2) 653), (653, o_ib (fun x y => x + y) 654), (654, o_sld L xs 655), (655, o_aload 0 656), (656, o_iload 3 657), (657, o_const (.int 3) 658), (658, o_ib (fun x y => x + y) 659), (659, o_sld L xs 660), (660, o_cV 3 47 3 663), (663, o_aload 2 664), (664, o_aload 0 665), (665, o_iload 3 666), (666, o_const (.int 1) 667), (667, o_ib (fun x y => x + y) 668), (668, o_sld L xs 669), (669, o_aload 0 670), (670, o_iload 3 671), (671, o_const (.int 2) 672), (672, o_ib (fun x y => x + y) 673), (673, o_sld L xs 674), (674, o_aload 0 675), (675, o_iload 3 676), (676, o_const (.int 3) 677), (677, o_ib (fun x y => x + y) 678), (678, o_sld L xs 679), (679, o_cV 4 136 3 682), (682, o_ic (fun x y => decide (x = y)) 1009 685), (685, o_const (.int 0) 686), (686, o_retZ), (687, o_aload 1 688), (688, o_aload 0 689), (689, o_iload 3 690), (690, o_const (.int 1) 691), (691, o_ib (fun x y => x + y) 692), (692, o_sld L xs 693), (693, o_cV 3 48 1 696), (696, o_aload 2 697), (697, o_aload 0 698), (698, o_iload 3 699), (699, o_const (.int 1) 700), (700, o_ib (fun x y => x + y) 701), (701, o_sld L xs 702), (702, o_cV 4 137 1 705)],
  [(705, o_ic (fun x y => decide (x = y)) 1009 708), (708, o_const (.int 0) 709), (709, o_retZ), (710, o_aload 1 711), (711, o_aload 0 712), (712, o_iload 3 713), (713, o_const (.int 1) 714), (714, o_ib (fun x y => x + y) 715), (715, o_sld L xs 716), (716, o_aload 0 717), (717, o_iload 3 718), (718, o_const (.int 2) 719), (719, o_ib (fun x y => x + y) 720), (720, o_sld L xs 721), (721, o_aload 0 722), (722, o_iload 3 723), (723, o_const (.int 3) 724), (724, o_ib (fun x y => x + y) 725), (725, o_sld L xs 726), (726, o_cV 3 49 3 729), (729, o_aload 2 730), (730, o_aload 0 731), (731, o_iload 3 732), (732, o_const (.int 1) 733), (733, o_ib (fun x y => x + y) 734), (734, o_sld L xs 735), (735, o_aload 0 736), (736, o_iload 3 737), (737, o_const (.int 2) 738), (738, o_ib (fun x y => x + y) 739), (739, o_sld L xs 740), (740, o_aload 0 741), (741, o_iload 3 742), (742, o_const (.int 3) 743), (743, o_ib (fun x y => x + y) 744), (744, o_sld L xs 745), (745, o_cV 4 138 3 748), (748, o_ic (fun x y => decide (x = y)) 1009 751), (751, o_const (.int 0) 752), (752, o_retZ), (753, o_aload 1 754), (754, o_aload 0 755), (755, o_iload 3 756), (756, o_const (.int 1) 757), (757, o_ib (fun x y => x + y) 758), (758, o_sld L xs 759), (759, o_aload 0 760), (760, o_iload 3 761), (761, o_const (.int 2) 762), (762, o_ib (fun x y => x + y) 763), (763, o_sld L xs 764), (764, o_aload 0 765), (765, o_iload 3 766), (766, o_const (.int 3) 767), (767, o_ib (fun x y => x + y) 768)],
  [(768, o_sld L xs 769), (769, o_cV 3 50 3 772), (772, o_aload 2 773), (773, o_aload 0 774), (774, o_iload 3 775), (775, o_const (.int 1) 776), (776, o_ib (fun x y => x + y) 777), (777, o_sld L xs 778), (778, o_aload 0 779), (779, o_iload 3 780), (780, o_const (.int 2) 781), (781, o_ib (fun x y => x + y) 782), (782, o_sld L xs 783), (783, o_aload 0 784), (784, o_iload 3 785), (785, o_const (.int 3) 786), (786, o_ib (fun x y => x + y) 787), (787, o_sld L xs 788), (788, o_cV 4 139 3 791), (791, o_ic (fun x y => decide (x = y)) 1009 794), (794, o_const (.int 0) 795), (795, o_retZ), (796, o_aload 1 797), (797, o_aload 0 798), (798, o_iload 3 799), (799, o_const (.int 1) 800), (800, o_ib (fun x y => x + y) 801), (801, o_sld L xs 802), (802, o_aload 0 803), (803, o_iload 3 804), (804, o_const (.int 2) 805), (805, o_ib (fun x y => x + y) 806), (806, o_sld L xs 807), (807, o_aload 0 808), (808, o_iload 3 809), (809, o_const (.int 3) 810), (810, o_ib (fun x y => x + y) 811), (811, o_sld L xs 812), (812, o_cV 3 51 3 815), (815, o_aload 2 816), (816, o_aload 0 817), (817, o_iload 3 818), (818, o_const (.int 1) 819), (819, o_ib (fun x y => x + y) 820), (820, o_sld L xs 821), (821, o_aload 0 822), (822, o_iload 3 823), (823, o_const (.int 2) 824), (824, o_ib (fun x y => x + y) 825), (825, o_sld L xs 826), (826, o_aload 0 827), (827, o_iload 3 828), (828, o_const (.int 3) 829), (829, o_ib (fun x y => x + y) 830), (830, o_sld L xs 831), (831, o_cV 4 140 3 834)],
  [(834, o_ic (fun x y => decide (x = y)) 1009 837), (837, o_const (.int 0) 838), (838, o_retZ), (839, o_aload 1 840), (840, o_aload 0 841), (841, o_iload 3 842), (842, o_const (.int 1) 843), (843, o_ib (fun x y => x + y) 844), (844, o_sld L xs 845), (845, o_aload 0 846), (846, o_iload 3 847), (847, o_const (.int 2) 848), (848, o_ib (fun x y => x + y) 849), (849, o_sld L xs 850), (850, o_aload 0 851), (851, o_iload 3 852), (852, o_const (.int 3) 853), (853, o_ib (fun x y => x + y) 854), (854, o_sld L xs 855), (855, o_cV 3 52 3 858), (858, o_aload 2 859), (859, o_aload 0 860), (860, o_iload 3 861), (861, o_const (.int 1) 862), (862, o_ib (fun x y => x + y) 863), (863, o_sld L xs 864), (864, o_aload 0 865), (865, o_iload 3 866), (866, o_const (.int 2) 867), (867, o_ib (fun x y => x + y) 868), (868, o_sld L xs 869), (869, o_aload 0 870), (870, o_iload 3 871), (871, o_const (.int 3) 872), (872, o_ib (fun x y => x + y) 873), (873, o_sld L xs 874), (874, o_cV 4 141 3 877), (877, o_ic (fun x y => decide (x = y)) 1009 880), (880, o_const (.int 0) 881), (881, o_retZ), (882, o_aload 1 883), (883, o_aload 0 884), (884, o_iload 3 885), (885, o_const (.int 1) 886), (886, o_ib (fun x y => x + y) 887), (887, o_sld L xs 888), (888, o_aload 0 889), (889, o_iload 3 890), (890, o_const (.int 2) 891), (891, o_ib (fun x y => x + y) 892), (892, o_sld L xs 893), (893, o_aload 0 894), (894, o_iload 3 895), (895, o_const (.int 3) 896)],
  [(896, o_ib (fun x y => x + y) 897), (897, o_sld L xs 898), (898, o_cV 3 53 3 901), (901, o_aload 2 902), (902, o_aload 0 903), (903, o_iload 3 904), (904, o_const (.int 1) 905), (905, o_ib (fun x y => x + y) 906), (906, o_sld L xs 907), (907, o_aload 0 908), (908, o_iload 3 909), (909, o_const (.int 2) 910), (910, o_ib (fun x y => x + y) 911), (911, o_sld L xs 912), (912, o_aload 0 913), (913, o_iload 3 914), (914, o_const (.int 3) 915), (915, o_ib (fun x y => x + y) 916), (916, o_sld L xs 917), (917, o_cV 4 142 3 920), (920, o_ic (fun x y => decide (x = y)) 1009 923), (923, o_const (.int 0) 924), (924, o_retZ), (925, o_aload 1 926), (926, o_aload 0 927), (927, o_iload 3 928), (928, o_const (.int 1) 929), (929, o_ib (fun x y => x + y) 930), (930, o_sld L xs 931), (931, o_cV 3 54 1 934), (934, o_aload 2 935), (935, o_aload 0 936), (936, o_iload 3 937), (937, o_const (.int 1) 938), (938, o_ib (fun x y => x + y) 939), (939, o_sld L xs 940), (940, o_cV 4 143 1 943), (943, o_ic (fun x y => decide (x = y)) 1009 946), (946, o_const (.int 0) 947), (947, o_retZ), (948, o_aload 1 949), (949, o_aload 0 950), (950, o_iload 3 951), (951, o_const (.int 1) 952), (952, o_ib (fun x y => x + y) 953), (953, o_sld L xs 954), (954, o_cV 3 55 1 957), (957, o_aload 2 958), (958, o_aload 0 959), (959, o_iload 3 960)],
  [(960, o_const (.int 1) 961), (961, o_ib (fun x y => x + y) 962), (962, o_sld L xs 963), (963, o_cV 4 144 1 966), (966, o_lcmp 967), (967, o_if (fun x => decide (x = 0)) 1009 970), (970, o_const (.int 0) 971), (971, o_retZ), (972, o_aload 1 973), (973, o_aload 0 974), (974, o_iload 3 975), (975, o_const (.int 1) 976), (976, o_ib (fun x y => x + y) 977), (977, o_sld L xs 978), (978, o_cV 3 56 1 981), (981, o_aload 2 982), (982, o_aload 0 983), (983, o_iload 3 984), (984, o_const (.int 1) 985), (985, o_ib (fun x y => x + y) 986), (986, o_sld L xs 987), (987, o_cV 4 145 1 990), (990, o_ic (fun x y => decide (x = y)) 1009 993), (993, o_const (.int 0) 994), (994, o_retZ), (995, o_aload 1 996), (996, o_cV 3 57 0 999), (999, o_aload 2 1000), (1000, o_cV 4 146 0 1003), (1003, o_lcmp 1004), (1004, o_if (fun x => decide (x = 0)) 1009 1007), (1007, o_const (.int 0) 1008), (1008, o_retZ), (1009, o_iinc 3 5 1012), (1012, o_goto 18), (1015, o_const (.int 1) 1016), (1016, o_retZ)]]
theorem zL_law_16 {L : Nat} {xs : Nat → Int32} {O : e_O} {a0 a1 a2 a3 : Value} {st : List Value} {h : e_H}  : e_F (kL_law L xs) O 16 [a0, a1, a2, a3] (st) h = e_F (kL_law L xs) O 17 [a0, a1, a2, a3] (.int 0 :: st) h := e_F_op rfl rfl
theorem zL_law_17 {L : Nat} {xs : Nat → Int32} {O : e_O} {a0 a1 a2 a3 : Value} {st : List Value} {h : e_H} {x : Int32} : e_F (kL_law L xs) O 17 [a0, a1, a2, a3] (.int x :: st) h = e_F (kL_law L xs) O 18 [a0, a1, e_k a2, .int x] (st) h := e_F_op rfl rfl
theorem zL_law_18 {L : Nat} {xs : Nat → Int32} {O : e_O} {a0 a1 a2 : Value} {st : List Value} {h : e_H} {x : Int32} : e_F (kL_law L xs) O 18 [a0, a1, a2, .int x] (st) h = e_F (kL_law L xs) O 19 [a0, a1, a2, .int x] (.int x :: st) h := e_F_op rfl rfl
theorem zL_law_19 {L : Nat} {xs : Nat → Int32} {O : e_O} {a1 a2 a3 : Value} {st : List Value} {h : e_H} {x : Nat} : e_F (kL_law L xs) O 19 [.retAddr x, a1, a2, a3] (st) h = e_F (kL_law L xs) O 20 [.retAddr x, a1, a2, a3] (.retAddr x :: st) h := e_F_op rfl rfl
theorem zL_law_20 {L : Nat} {xs : Nat → Int32} {O : e_O} {a0 a1 a2 a3 : Value} {st : List Value} {h : e_H}  : e_F (kL_law L xs) O 20 [a0, a1, a2, a3] (.retAddr 0 :: st) h = e_F (kL_law L xs) O 21 [a0, a1, a2, a3] (.int (Int32.ofNat L) :: st) h := e_F_op rfl rfl
theorem zL_law_21 {L : Nat} {xs : Nat → Int32} {O : e_O} {a0 a1 a2 a3 : Value} {st : List Value} {h : e_H}  : e_F (kL_law L xs) O 21 [a0, a1, a2, a3] (st) h = e_F (kL_law L xs) O 22 [a0, a1, a2, a3] (.int 5 :: st) h := e_F_op rfl rfl
theorem zL_law_22 {L : Nat} {xs : Nat → Int32} {O : e_O} {a0 a1 a2 a3 : Value} {st : List Value} {h : e_H} {y : Int32} {x : Int32} : e_F (kL_law L xs) O 22 [a0, a1, a2, a3] (.int y :: .int x :: st) h = e_F (kL_law L xs) O 23 [a0, a1, a2, a3] (.int (x - y) :: st) h := e_F_op rfl rfl
theorem zL_law_23 {L : Nat} {xs : Nat → Int32} {O : e_O} {a0 a1 a2 a3 : Value} {st : List Value} {h : e_H} {y : Int32} {x : Int32} : e_F (kL_law L xs) O 23 [a0, a1, a2, a3] (.int y :: .int x :: st) h = if y < x then e_F (kL_law L xs) O 1015 [a0, a1, a2, a3] (st) h else e_F (kL_law L xs) O 26 [a0, a1, a2, a3] (st) h := f_ic (P := fun x y => y < x) rfl
theorem zL_law_26 {L : Nat} {xs : Nat → Int32} {O : e_O} {a1 a2 a3 : Value} {st : List Value} {h : e_H} {x : Nat} : e_F (kL_law L xs) O 26 [.retAddr x, a1, a2, a3] (st) h = e_F (kL_law L xs) O 27 [.retAddr x, a1, a2, a3] (.retAddr x :: st) h := e_F_op rfl rfl
theorem zL_law_27 {L : Nat} {xs : Nat → Int32} {O : e_O} {a0 a1 a2 : Value} {st : List Value} {h : e_H} {x : Int32} : e_F (kL_law L xs) O 27 [a0, a1, a2, .int x] (st) h = e_F (kL_law L xs) O 28 [a0, a1, a2, .int x] (.int x :: st) h := e_F_op rfl rfl
theorem zL_law_28 {L : Nat} {xs : Nat → Int32} {O : e_O} {a0 a1 a2 a3 : Value} {st : List Value} {h : e_H} {i : Int32} : e_F (kL_law L xs) O 28 [a0, a1, a2, a3] (.int i :: .retAddr 0 :: st) h = if e_inb i L = true then e_F (kL_law L xs) O 29 [a0, a1, a2, a3] (.int (xs i.toNatClampNeg) :: st) h else none := f_sld rfl
theorem zL_law_29 {L : Nat} {xs : Nat → Int32} {O : e_O} {a0 a1 a2 a3 : Value} {st : List Value} {h : e_H}  : e_F (kL_law L xs) O 29 [a0, a1, a2, a3] (st) h = e_F (kL_law L xs) O 31 [a0, a1, a2, a3] (.int 31 :: st) h := e_F_op rfl rfl
theorem zL_law_31 {L : Nat} {xs : Nat → Int32} {O : e_O} {a0 a1 a2 a3 : Value} {st : List Value} {h : e_H} {y : Int32} {x : Int32} : e_F (kL_law L xs) O 31 [a0, a1, a2, a3] (.int y :: .int x :: st) h = e_F (kL_law L xs) O 32 [a0, a1, a2, a3] (.int (x &&& y) :: st) h := e_F_op rfl rfl
theorem zL_law_32 {L : Nat} {xs : Nat → Int32} {O : e_O} {a0 a1 a2 a3 : Value} {st : List Value} {h : e_H} {x : Int32} : e_F (kL_law L xs) O 32 [a0, a1, a2, a3] (.int x :: st) h = if x = 0 then e_F (kL_law L xs) O 156 [a0, a1, a2, a3] (st) h else if x = 1 then e_F (kL_law L xs) O 179 [a0, a1, a2, a3] (st) h else if x = 2 then e_F (kL_law L xs) O 202 [a0, a1, a2, a3] (st) h else if x = 3 then e_F (kL_law L xs) O 255 [a0, a1, a2, a3] (st) h else if x = 4 then e_F (kL_law L xs) O 298 [a0, a1, a2, a3] (st) h else if x = 5 then e_F (kL_law L xs) O 341 [a0, a1, a2, a3] (st) h else if x = 6 then e_F (kL_law L xs) O 374 [a0, a1, a2, a3] (st) h else if x = 7 then e_F (kL_law L xs) O 407 [a0, a1, a2, a3] (st) h else if x = 8 then e_F (kL_law L xs) O 430 [a0, a1, a2, a3] (st) h else if x = 9 then e_F (kL_law L xs) O 443 [a0, a1, a2, a3] (st) h else if x = 10 then e_F (kL_law L xs) O 456 [a0, a1, a2, a3] (st) h else if x = 11 then e_F (kL_law L xs) O 489 [a0, a1, a2, a3] (st) h else if x = 12 then e_F (kL_law L xs) O 522 [a0, a1, a2, a3] (st) h else if x = 13 then e_F (kL_law L xs) O 565 [a0, a1, a2, a3] (st) h else if x = 14 then e_F (kL_law L xs) O 598 [a0, a1, a2, a3] (st) h else if x = 15 then e_F (kL_law L xs) O 621 [a0, a1, a2, a3] (st) h else if x = 16 then e_F (kL_law L xs) O 644 [a0, a1, a2, a3] (st) h else if x = 17 then e_F (kL_law L xs) O 687 [a0, a1, a2, a3] (st) h else if x = 18 then e_F (kL_law L xs) O 710 [a0, a1, a2, a3] (st) h else if x = 19 then e_F (kL_law L xs) O 753 [a0, a1, a2, a3] (st) h else if x = 20 then e_F (kL_law L xs) O 796 [a0, a1, a2, a3] (st) h else if x = 21 then e_F (kL_law L xs) O 839 [a0, a1, a2, a3] (st) h else if x = 22 then e_F (kL_law L xs) O 882 [a0, a1, a2, a3] (st) h else if x = 23 then e_F (kL_law L xs) O 925 [a0, a1, a2, a3] (st) h else if x = 24 then e_F (kL_law L xs) O 948 [a0, a1, a2, a3] (st) h else if x = 25 then e_F (kL_law L xs) O 972 [a0, a1, a2, a3] (st) h else if x = 26 then e_F (kL_law L xs) O 995 [a0, a1, a2, a3] (st) h else e_F (kL_law L xs) O 1009 [a0, a1, a2, a3] (st) h := by rw [f_sw rfl]; simp only [f_sw1, f_sw0]
theorem zL_law_156 {L : Nat} {xs : Nat → Int32} {O : e_O} {a0 a2 a3 : Value} {st : List Value} {h : e_H} {x : Nat} : e_F (kL_law L xs) O 156 [a0, .ref x, a2, a3] (st) h = e_F (kL_law L xs) O 157 [a0, .ref x, a2, a3] (.ref x :: st) h := e_F_op rfl rfl
theorem zL_law_157 {L : Nat} {xs : Nat → Int32} {O : e_O} {a1 a2 a3 : Value} {st : List Value} {h : e_H} {x : Nat} : e_F (kL_law L xs) O 157 [.retAddr x, a1, a2, a3] (st) h = e_F (kL_law L xs) O 158 [.retAddr x, a1, a2, a3] (.retAddr x :: st) h := e_F_op rfl rfl
theorem zL_law_158 {L : Nat} {xs : Nat → Int32} {O : e_O} {a0 a1 a2 : Value} {st : List Value} {h : e_H} {x : Int32} : e_F (kL_law L xs) O 158 [a0, a1, a2, .int x] (st) h = e_F (kL_law L xs) O 159 [a0, a1, a2, .int x] (.int x :: st) h := e_F_op rfl rfl
theorem zL_law_159 {L : Nat} {xs : Nat → Int32} {O : e_O} {a0 a1 a2 a3 : Value} {st : List Value} {h : e_H}  : e_F (kL_law L xs) O 159 [a0, a1, a2, a3] (st) h = e_F (kL_law L xs) O 160 [a0, a1, a2, a3] (.int 1 :: st) h := e_F_op rfl rfl
theorem zL_law_160 {L : Nat} {xs : Nat → Int32} {O : e_O} {a0 a1 a2 a3 : Value} {st : List Value} {h : e_H} {y : Int32} {x : Int32} : e_F (kL_law L xs) O 160 [a0, a1, a2, a3] (.int y :: .int x :: st) h = e_F (kL_law L xs) O 161 [a0, a1, a2, a3] (.int (x + y) :: st) h := e_F_op rfl rfl
theorem zL_law_161 {L : Nat} {xs : Nat → Int32} {O : e_O} {a0 a1 a2 a3 : Value} {st : List Value} {h : e_H} {i : Int32} : e_F (kL_law L xs) O 161 [a0, a1, a2, a3] (.int i :: .retAddr 0 :: st) h = if e_inb i L = true then e_F (kL_law L xs) O 162 [a0, a1, a2, a3] (.int (xs i.toNatClampNeg) :: st) h else none := f_sld rfl
theorem zL_law_162 {L : Nat} {xs : Nat → Int32} {O : e_O} {a0 a1 a2 a3 : Value} {st : List Value} {h : e_H} {v0 : Int32} : e_F (kL_law L xs) O 162 [a0, a1, a2, a3] (.int v0 :: .ref 0 :: st) h = if e_cats st ≤ 8 then (O 31 [.ref 0, .int v0] h).bind (fun q => e_F (kL_law L xs) O 165 [a0, a1, a2, a3] (q.1.toList ++ st) q.2) else none := f_cV rfl rfl rfl rfl
theorem zL_law_165 {L : Nat} {xs : Nat → Int32} {O : e_O} {a0 a1 a3 : Value} {st : List Value} {h : e_H} {x : Nat} : e_F (kL_law L xs) O 165 [a0, a1, .ref x, a3] (st) h = e_F (kL_law L xs) O 166 [a0, a1, .ref x, a3] (.ref x :: st) h := e_F_op rfl rfl
theorem zL_law_166 {L : Nat} {xs : Nat → Int32} {O : e_O} {a1 a2 a3 : Value} {st : List Value} {h : e_H} {x : Nat} : e_F (kL_law L xs) O 166 [.retAddr x, a1, a2, a3] (st) h = e_F (kL_law L xs) O 167 [.retAddr x, a1, a2, a3] (.retAddr x :: st) h := e_F_op rfl rfl
theorem zL_law_167 {L : Nat} {xs : Nat → Int32} {O : e_O} {a0 a1 a2 : Value} {st : List Value} {h : e_H} {x : Int32} : e_F (kL_law L xs) O 167 [a0, a1, a2, .int x] (st) h = e_F (kL_law L xs) O 168 [a0, a1, a2, .int x] (.int x :: st) h := e_F_op rfl rfl
theorem zL_law_168 {L : Nat} {xs : Nat → Int32} {O : e_O} {a0 a1 a2 a3 : Value} {st : List Value} {h : e_H}  : e_F (kL_law L xs) O 168 [a0, a1, a2, a3] (st) h = e_F (kL_law L xs) O 169 [a0, a1, a2, a3] (.int 1 :: st) h := e_F_op rfl rfl
theorem zL_law_169 {L : Nat} {xs : Nat → Int32} {O : e_O} {a0 a1 a2 a3 : Value} {st : List Value} {h : e_H} {y : Int32} {x : Int32} : e_F (kL_law L xs) O 169 [a0, a1, a2, a3] (.int y :: .int x :: st) h = e_F (kL_law L xs) O 170 [a0, a1, a2, a3] (.int (x + y) :: st) h := e_F_op rfl rfl
theorem zL_law_170 {L : Nat} {xs : Nat → Int32} {O : e_O} {a0 a1 a2 a3 : Value} {st : List Value} {h : e_H} {i : Int32} : e_F (kL_law L xs) O 170 [a0, a1, a2, a3] (.int i :: .retAddr 0 :: st) h = if e_inb i L = true then e_F (kL_law L xs) O 171 [a0, a1, a2, a3] (.int (xs i.toNatClampNeg) :: st) h else none := f_sld rfl
theorem zL_law_171 {L : Nat} {xs : Nat → Int32} {O : e_O} {a0 a1 a2 a3 : Value} {st : List Value} {h : e_H} {v0 : Int32} : e_F (kL_law L xs) O 171 [a0, a1, a2, a3] (.int v0 :: .ref 40 :: st) h = if e_cats st ≤ 8 then (O 89 [.ref 40, .int v0] h).bind (fun q => e_F (kL_law L xs) O 174 [a0, a1, a2, a3] (q.1.toList ++ st) q.2) else none := f_cV rfl rfl rfl rfl
theorem zL_law_174 {L : Nat} {xs : Nat → Int32} {O : e_O} {a0 a1 a2 a3 : Value} {st : List Value} {h : e_H} {y : Int32} {x : Int32} : e_F (kL_law L xs) O 174 [a0, a1, a2, a3] (.int y :: .int x :: st) h = if x = y then e_F (kL_law L xs) O 1009 [a0, a1, a2, a3] (st) h else e_F (kL_law L xs) O 177 [a0, a1, a2, a3] (st) h := f_ic (P := fun x y => x = y) rfl
theorem zL_law_177 {L : Nat} {xs : Nat → Int32} {O : e_O} {a0 a1 a2 a3 : Value} {st : List Value} {h : e_H}  : e_F (kL_law L xs) O 177 [a0, a1, a2, a3] (st) h = e_F (kL_law L xs) O 178 [a0, a1, a2, a3] (.int 0 :: st) h := e_F_op rfl rfl
theorem zL_law_178 {L : Nat} {xs : Nat → Int32} {O : e_O} {a0 a1 a2 a3 : Value}  {h : e_H} {x : Int32} : e_F (kL_law L xs) O 178 [a0, a1, a2, a3] ([.int x]) h = if x = 0 ∨ x = 1 then some (some (.int x), h) else none := f_retZ rfl
theorem zL_law_179 {L : Nat} {xs : Nat → Int32} {O : e_O} {a0 a2 a3 : Value} {st : List Value} {h : e_H} {x : Nat} : e_F (kL_law L xs) O 179 [a0, .ref x, a2, a3] (st) h = e_F (kL_law L xs) O 180 [a0, .ref x, a2, a3] (.ref x :: st) h := e_F_op rfl rfl
theorem zL_law_180 {L : Nat} {xs : Nat → Int32} {O : e_O} {a1 a2 a3 : Value} {st : List Value} {h : e_H} {x : Nat} : e_F (kL_law L xs) O 180 [.retAddr x, a1, a2, a3] (st) h = e_F (kL_law L xs) O 181 [.retAddr x, a1, a2, a3] (.retAddr x :: st) h := e_F_op rfl rfl
theorem zL_law_181 {L : Nat} {xs : Nat → Int32} {O : e_O} {a0 a1 a2 : Value} {st : List Value} {h : e_H} {x : Int32} : e_F (kL_law L xs) O 181 [a0, a1, a2, .int x] (st) h = e_F (kL_law L xs) O 182 [a0, a1, a2, .int x] (.int x :: st) h := e_F_op rfl rfl
theorem zL_law_182 {L : Nat} {xs : Nat → Int32} {O : e_O} {a0 a1 a2 a3 : Value} {st : List Value} {h : e_H}  : e_F (kL_law L xs) O 182 [a0, a1, a2, a3] (st) h = e_F (kL_law L xs) O 183 [a0, a1, a2, a3] (.int 1 :: st) h := e_F_op rfl rfl
theorem zL_law_183 {L : Nat} {xs : Nat → Int32} {O : e_O} {a0 a1 a2 a3 : Value} {st : List Value} {h : e_H} {y : Int32} {x : Int32} : e_F (kL_law L xs) O 183 [a0, a1, a2, a3] (.int y :: .int x :: st) h = e_F (kL_law L xs) O 184 [a0, a1, a2, a3] (.int (x + y) :: st) h := e_F_op rfl rfl
theorem zL_law_184 {L : Nat} {xs : Nat → Int32} {O : e_O} {a0 a1 a2 a3 : Value} {st : List Value} {h : e_H} {i : Int32} : e_F (kL_law L xs) O 184 [a0, a1, a2, a3] (.int i :: .retAddr 0 :: st) h = if e_inb i L = true then e_F (kL_law L xs) O 185 [a0, a1, a2, a3] (.int (xs i.toNatClampNeg) :: st) h else none := f_sld rfl
theorem zL_law_185 {L : Nat} {xs : Nat → Int32} {O : e_O} {a0 a1 a2 a3 : Value} {st : List Value} {h : e_H} {v0 : Int32} : e_F (kL_law L xs) O 185 [a0, a1, a2, a3] (.int v0 :: .ref 0 :: st) h = if e_cats st ≤ 8 then (O 32 [.ref 0, .int v0] h).bind (fun q => e_F (kL_law L xs) O 188 [a0, a1, a2, a3] (q.1.toList ++ st) q.2) else none := f_cV rfl rfl rfl rfl
theorem zL_law_188 {L : Nat} {xs : Nat → Int32} {O : e_O} {a0 a1 a3 : Value} {st : List Value} {h : e_H} {x : Nat} : e_F (kL_law L xs) O 188 [a0, a1, .ref x, a3] (st) h = e_F (kL_law L xs) O 189 [a0, a1, .ref x, a3] (.ref x :: st) h := e_F_op rfl rfl
theorem zL_law_189 {L : Nat} {xs : Nat → Int32} {O : e_O} {a1 a2 a3 : Value} {st : List Value} {h : e_H} {x : Nat} : e_F (kL_law L xs) O 189 [.retAddr x, a1, a2, a3] (st) h = e_F (kL_law L xs) O 190 [.retAddr x, a1, a2, a3] (.retAddr x :: st) h := e_F_op rfl rfl
theorem zL_law_190 {L : Nat} {xs : Nat → Int32} {O : e_O} {a0 a1 a2 : Value} {st : List Value} {h : e_H} {x : Int32} : e_F (kL_law L xs) O 190 [a0, a1, a2, .int x] (st) h = e_F (kL_law L xs) O 191 [a0, a1, a2, .int x] (.int x :: st) h := e_F_op rfl rfl
theorem zL_law_191 {L : Nat} {xs : Nat → Int32} {O : e_O} {a0 a1 a2 a3 : Value} {st : List Value} {h : e_H}  : e_F (kL_law L xs) O 191 [a0, a1, a2, a3] (st) h = e_F (kL_law L xs) O 192 [a0, a1, a2, a3] (.int 1 :: st) h := e_F_op rfl rfl
theorem zL_law_192 {L : Nat} {xs : Nat → Int32} {O : e_O} {a0 a1 a2 a3 : Value} {st : List Value} {h : e_H} {y : Int32} {x : Int32} : e_F (kL_law L xs) O 192 [a0, a1, a2, a3] (.int y :: .int x :: st) h = e_F (kL_law L xs) O 193 [a0, a1, a2, a3] (.int (x + y) :: st) h := e_F_op rfl rfl
theorem zL_law_193 {L : Nat} {xs : Nat → Int32} {O : e_O} {a0 a1 a2 a3 : Value} {st : List Value} {h : e_H} {i : Int32} : e_F (kL_law L xs) O 193 [a0, a1, a2, a3] (.int i :: .retAddr 0 :: st) h = if e_inb i L = true then e_F (kL_law L xs) O 194 [a0, a1, a2, a3] (.int (xs i.toNatClampNeg) :: st) h else none := f_sld rfl
theorem zL_law_194 {L : Nat} {xs : Nat → Int32} {O : e_O} {a0 a1 a2 a3 : Value} {st : List Value} {h : e_H} {v0 : Int32} : e_F (kL_law L xs) O 194 [a0, a1, a2, a3] (.int v0 :: .ref 40 :: st) h = if e_cats st ≤ 8 then (O 90 [.ref 40, .int v0] h).bind (fun q => e_F (kL_law L xs) O 197 [a0, a1, a2, a3] (q.1.toList ++ st) q.2) else none := f_cV rfl rfl rfl rfl
theorem zL_law_197 {L : Nat} {xs : Nat → Int32} {O : e_O} {a0 a1 a2 a3 : Value} {st : List Value} {h : e_H} {y : Int32} {x : Int32} : e_F (kL_law L xs) O 197 [a0, a1, a2, a3] (.int y :: .int x :: st) h = if x = y then e_F (kL_law L xs) O 1009 [a0, a1, a2, a3] (st) h else e_F (kL_law L xs) O 200 [a0, a1, a2, a3] (st) h := f_ic (P := fun x y => x = y) rfl
theorem zL_law_200 {L : Nat} {xs : Nat → Int32} {O : e_O} {a0 a1 a2 a3 : Value} {st : List Value} {h : e_H}  : e_F (kL_law L xs) O 200 [a0, a1, a2, a3] (st) h = e_F (kL_law L xs) O 201 [a0, a1, a2, a3] (.int 0 :: st) h := e_F_op rfl rfl
theorem zL_law_201 {L : Nat} {xs : Nat → Int32} {O : e_O} {a0 a1 a2 a3 : Value}  {h : e_H} {x : Int32} : e_F (kL_law L xs) O 201 [a0, a1, a2, a3] ([.int x]) h = if x = 0 ∨ x = 1 then some (some (.int x), h) else none := f_retZ rfl
theorem zL_law_202 {L : Nat} {xs : Nat → Int32} {O : e_O} {a0 a2 a3 : Value} {st : List Value} {h : e_H} {x : Nat} : e_F (kL_law L xs) O 202 [a0, .ref x, a2, a3] (st) h = e_F (kL_law L xs) O 203 [a0, .ref x, a2, a3] (.ref x :: st) h := e_F_op rfl rfl
theorem zL_law_203 {L : Nat} {xs : Nat → Int32} {O : e_O} {a1 a2 a3 : Value} {st : List Value} {h : e_H} {x : Nat} : e_F (kL_law L xs) O 203 [.retAddr x, a1, a2, a3] (st) h = e_F (kL_law L xs) O 204 [.retAddr x, a1, a2, a3] (.retAddr x :: st) h := e_F_op rfl rfl
theorem zL_law_204 {L : Nat} {xs : Nat → Int32} {O : e_O} {a0 a1 a2 : Value} {st : List Value} {h : e_H} {x : Int32} : e_F (kL_law L xs) O 204 [a0, a1, a2, .int x] (st) h = e_F (kL_law L xs) O 205 [a0, a1, a2, .int x] (.int x :: st) h := e_F_op rfl rfl
theorem zL_law_205 {L : Nat} {xs : Nat → Int32} {O : e_O} {a0 a1 a2 a3 : Value} {st : List Value} {h : e_H}  : e_F (kL_law L xs) O 205 [a0, a1, a2, a3] (st) h = e_F (kL_law L xs) O 206 [a0, a1, a2, a3] (.int 1 :: st) h := e_F_op rfl rfl
theorem zL_law_206 {L : Nat} {xs : Nat → Int32} {O : e_O} {a0 a1 a2 a3 : Value} {st : List Value} {h : e_H} {y : Int32} {x : Int32} : e_F (kL_law L xs) O 206 [a0, a1, a2, a3] (.int y :: .int x :: st) h = e_F (kL_law L xs) O 207 [a0, a1, a2, a3] (.int (x + y) :: st) h := e_F_op rfl rfl
theorem zL_law_207 {L : Nat} {xs : Nat → Int32} {O : e_O} {a0 a1 a2 a3 : Value} {st : List Value} {h : e_H} {i : Int32} : e_F (kL_law L xs) O 207 [a0, a1, a2, a3] (.int i :: .retAddr 0 :: st) h = if e_inb i L = true then e_F (kL_law L xs) O 208 [a0, a1, a2, a3] (.int (xs i.toNatClampNeg) :: st) h else none := f_sld rfl
theorem zL_law_208 {L : Nat} {xs : Nat → Int32} {O : e_O} {a1 a2 a3 : Value} {st : List Value} {h : e_H} {x : Nat} : e_F (kL_law L xs) O 208 [.retAddr x, a1, a2, a3] (st) h = e_F (kL_law L xs) O 209 [.retAddr x, a1, a2, a3] (.retAddr x :: st) h := e_F_op rfl rfl
theorem zL_law_209 {L : Nat} {xs : Nat → Int32} {O : e_O} {a0 a1 a2 : Value} {st : List Value} {h : e_H} {x : Int32} : e_F (kL_law L xs) O 209 [a0, a1, a2, .int x] (st) h = e_F (kL_law L xs) O 210 [a0, a1, a2, .int x] (.int x :: st) h := e_F_op rfl rfl
theorem zL_law_210 {L : Nat} {xs : Nat → Int32} {O : e_O} {a0 a1 a2 a3 : Value} {st : List Value} {h : e_H}  : e_F (kL_law L xs) O 210 [a0, a1, a2, a3] (st) h = e_F (kL_law L xs) O 211 [a0, a1, a2, a3] (.int 2 :: st) h := e_F_op rfl rfl
theorem zL_law_211 {L : Nat} {xs : Nat → Int32} {O : e_O} {a0 a1 a2 a3 : Value} {st : List Value} {h : e_H} {y : Int32} {x : Int32} : e_F (kL_law L xs) O 211 [a0, a1, a2, a3] (.int y :: .int x :: st) h = e_F (kL_law L xs) O 212 [a0, a1, a2, a3] (.int (x + y) :: st) h := e_F_op rfl rfl
theorem zL_law_212 {L : Nat} {xs : Nat → Int32} {O : e_O} {a0 a1 a2 a3 : Value} {st : List Value} {h : e_H} {i : Int32} : e_F (kL_law L xs) O 212 [a0, a1, a2, a3] (.int i :: .retAddr 0 :: st) h = if e_inb i L = true then e_F (kL_law L xs) O 213 [a0, a1, a2, a3] (.int (xs i.toNatClampNeg) :: st) h else none := f_sld rfl
theorem zL_law_213 {L : Nat} {xs : Nat → Int32} {O : e_O} {a1 a2 a3 : Value} {st : List Value} {h : e_H} {x : Nat} : e_F (kL_law L xs) O 213 [.retAddr x, a1, a2, a3] (st) h = e_F (kL_law L xs) O 214 [.retAddr x, a1, a2, a3] (.retAddr x :: st) h := e_F_op rfl rfl
theorem zL_law_214 {L : Nat} {xs : Nat → Int32} {O : e_O} {a0 a1 a2 : Value} {st : List Value} {h : e_H} {x : Int32} : e_F (kL_law L xs) O 214 [a0, a1, a2, .int x] (st) h = e_F (kL_law L xs) O 215 [a0, a1, a2, .int x] (.int x :: st) h := e_F_op rfl rfl
theorem zL_law_215 {L : Nat} {xs : Nat → Int32} {O : e_O} {a0 a1 a2 a3 : Value} {st : List Value} {h : e_H}  : e_F (kL_law L xs) O 215 [a0, a1, a2, a3] (st) h = e_F (kL_law L xs) O 216 [a0, a1, a2, a3] (.int 3 :: st) h := e_F_op rfl rfl
theorem zL_law_216 {L : Nat} {xs : Nat → Int32} {O : e_O} {a0 a1 a2 a3 : Value} {st : List Value} {h : e_H} {y : Int32} {x : Int32} : e_F (kL_law L xs) O 216 [a0, a1, a2, a3] (.int y :: .int x :: st) h = e_F (kL_law L xs) O 217 [a0, a1, a2, a3] (.int (x + y) :: st) h := e_F_op rfl rfl
theorem zL_law_217 {L : Nat} {xs : Nat → Int32} {O : e_O} {a0 a1 a2 a3 : Value} {st : List Value} {h : e_H} {i : Int32} : e_F (kL_law L xs) O 217 [a0, a1, a2, a3] (.int i :: .retAddr 0 :: st) h = if e_inb i L = true then e_F (kL_law L xs) O 218 [a0, a1, a2, a3] (.int (xs i.toNatClampNeg) :: st) h else none := f_sld rfl
theorem zL_law_218 {L : Nat} {xs : Nat → Int32} {O : e_O} {a1 a2 a3 : Value} {st : List Value} {h : e_H} {x : Nat} : e_F (kL_law L xs) O 218 [.retAddr x, a1, a2, a3] (st) h = e_F (kL_law L xs) O 219 [.retAddr x, a1, a2, a3] (.retAddr x :: st) h := e_F_op rfl rfl
theorem zL_law_219 {L : Nat} {xs : Nat → Int32} {O : e_O} {a0 a1 a2 : Value} {st : List Value} {h : e_H} {x : Int32} : e_F (kL_law L xs) O 219 [a0, a1, a2, .int x] (st) h = e_F (kL_law L xs) O 220 [a0, a1, a2, .int x] (.int x :: st) h := e_F_op rfl rfl
theorem zL_law_220 {L : Nat} {xs : Nat → Int32} {O : e_O} {a0 a1 a2 a3 : Value} {st : List Value} {h : e_H}  : e_F (kL_law L xs) O 220 [a0, a1, a2, a3] (st) h = e_F (kL_law L xs) O 221 [a0, a1, a2, a3] (.int 4 :: st) h := e_F_op rfl rfl
theorem zL_law_221 {L : Nat} {xs : Nat → Int32} {O : e_O} {a0 a1 a2 a3 : Value} {st : List Value} {h : e_H} {y : Int32} {x : Int32} : e_F (kL_law L xs) O 221 [a0, a1, a2, a3] (.int y :: .int x :: st) h = e_F (kL_law L xs) O 222 [a0, a1, a2, a3] (.int (x + y) :: st) h := e_F_op rfl rfl
theorem zL_law_222 {L : Nat} {xs : Nat → Int32} {O : e_O} {a0 a1 a2 a3 : Value} {st : List Value} {h : e_H} {i : Int32} : e_F (kL_law L xs) O 222 [a0, a1, a2, a3] (.int i :: .retAddr 0 :: st) h = if e_inb i L = true then e_F (kL_law L xs) O 223 [a0, a1, a2, a3] (.int (xs i.toNatClampNeg) :: st) h else none := f_sld rfl
theorem zL_law_223 {L : Nat} {xs : Nat → Int32} {O : e_O} {a0 a1 a2 a3 : Value} {st : List Value} {h : e_H} {v0 : Int32} {v1 : Int32} {v2 : Int32} {v3 : Int32} : e_F (kL_law L xs) O 223 [a0, a1, a2, a3] (.int v3 :: .int v2 :: .int v1 :: .int v0 :: .ref 0 :: st) h = if e_cats st ≤ 8 then (O 33 [.ref 0, .int v0, .int v1, .int v2, .int v3] h).bind (fun q => e_F (kL_law L xs) O 226 [a0, a1, a2, a3] (q.1.toList ++ st) q.2) else none := f_cV rfl rfl rfl rfl
theorem zL_law_226 {L : Nat} {xs : Nat → Int32} {O : e_O} {a0 a1 a3 : Value} {st : List Value} {h : e_H} {x : Nat} : e_F (kL_law L xs) O 226 [a0, a1, .ref x, a3] (st) h = e_F (kL_law L xs) O 227 [a0, a1, .ref x, a3] (.ref x :: st) h := e_F_op rfl rfl
theorem zL_law_227 {L : Nat} {xs : Nat → Int32} {O : e_O} {a1 a2 a3 : Value} {st : List Value} {h : e_H} {x : Nat} : e_F (kL_law L xs) O 227 [.retAddr x, a1, a2, a3] (st) h = e_F (kL_law L xs) O 228 [.retAddr x, a1, a2, a3] (.retAddr x :: st) h := e_F_op rfl rfl
theorem zL_law_228 {L : Nat} {xs : Nat → Int32} {O : e_O} {a0 a1 a2 : Value} {st : List Value} {h : e_H} {x : Int32} : e_F (kL_law L xs) O 228 [a0, a1, a2, .int x] (st) h = e_F (kL_law L xs) O 229 [a0, a1, a2, .int x] (.int x :: st) h := e_F_op rfl rfl
theorem zL_law_229 {L : Nat} {xs : Nat → Int32} {O : e_O} {a0 a1 a2 a3 : Value} {st : List Value} {h : e_H}  : e_F (kL_law L xs) O 229 [a0, a1, a2, a3] (st) h = e_F (kL_law L xs) O 230 [a0, a1, a2, a3] (.int 1 :: st) h := e_F_op rfl rfl
theorem zL_law_230 {L : Nat} {xs : Nat → Int32} {O : e_O} {a0 a1 a2 a3 : Value} {st : List Value} {h : e_H} {y : Int32} {x : Int32} : e_F (kL_law L xs) O 230 [a0, a1, a2, a3] (.int y :: .int x :: st) h = e_F (kL_law L xs) O 231 [a0, a1, a2, a3] (.int (x + y) :: st) h := e_F_op rfl rfl
theorem zL_law_231 {L : Nat} {xs : Nat → Int32} {O : e_O} {a0 a1 a2 a3 : Value} {st : List Value} {h : e_H} {i : Int32} : e_F (kL_law L xs) O 231 [a0, a1, a2, a3] (.int i :: .retAddr 0 :: st) h = if e_inb i L = true then e_F (kL_law L xs) O 232 [a0, a1, a2, a3] (.int (xs i.toNatClampNeg) :: st) h else none := f_sld rfl
theorem zL_law_232 {L : Nat} {xs : Nat → Int32} {O : e_O} {a1 a2 a3 : Value} {st : List Value} {h : e_H} {x : Nat} : e_F (kL_law L xs) O 232 [.retAddr x, a1, a2, a3] (st) h = e_F (kL_law L xs) O 233 [.retAddr x, a1, a2, a3] (.retAddr x :: st) h := e_F_op rfl rfl
theorem zL_law_233 {L : Nat} {xs : Nat → Int32} {O : e_O} {a0 a1 a2 : Value} {st : List Value} {h : e_H} {x : Int32} : e_F (kL_law L xs) O 233 [a0, a1, a2, .int x] (st) h = e_F (kL_law L xs) O 234 [a0, a1, a2, .int x] (.int x :: st) h := e_F_op rfl rfl
theorem zL_law_234 {L : Nat} {xs : Nat → Int32} {O : e_O} {a0 a1 a2 a3 : Value} {st : List Value} {h : e_H}  : e_F (kL_law L xs) O 234 [a0, a1, a2, a3] (st) h = e_F (kL_law L xs) O 235 [a0, a1, a2, a3] (.int 2 :: st) h := e_F_op rfl rfl
theorem zL_law_235 {L : Nat} {xs : Nat → Int32} {O : e_O} {a0 a1 a2 a3 : Value} {st : List Value} {h : e_H} {y : Int32} {x : Int32} : e_F (kL_law L xs) O 235 [a0, a1, a2, a3] (.int y :: .int x :: st) h = e_F (kL_law L xs) O 236 [a0, a1, a2, a3] (.int (x + y) :: st) h := e_F_op rfl rfl
theorem zL_law_236 {L : Nat} {xs : Nat → Int32} {O : e_O} {a0 a1 a2 a3 : Value} {st : List Value} {h : e_H} {i : Int32} : e_F (kL_law L xs) O 236 [a0, a1, a2, a3] (.int i :: .retAddr 0 :: st) h = if e_inb i L = true then e_F (kL_law L xs) O 237 [a0, a1, a2, a3] (.int (xs i.toNatClampNeg) :: st) h else none := f_sld rfl
theorem zL_law_237 {L : Nat} {xs : Nat → Int32} {O : e_O} {a1 a2 a3 : Value} {st : List Value} {h : e_H} {x : Nat} : e_F (kL_law L xs) O 237 [.retAddr x, a1, a2, a3] (st) h = e_F (kL_law L xs) O 238 [.retAddr x, a1, a2, a3] (.retAddr x :: st) h := e_F_op rfl rfl
theorem zL_law_238 {L : Nat} {xs : Nat → Int32} {O : e_O} {a0 a1 a2 : Value} {st : List Value} {h : e_H} {x : Int32} : e_F (kL_law L xs) O 238 [a0, a1, a2, .int x] (st) h = e_F (kL_law L xs) O 239 [a0, a1, a2, .int x] (.int x :: st) h := e_F_op rfl rfl
theorem zL_law_239 {L : Nat} {xs : Nat → Int32} {O : e_O} {a0 a1 a2 a3 : Value} {st : List Value} {h : e_H}  : e_F (kL_law L xs) O 239 [a0, a1, a2, a3] (st) h = e_F (kL_law L xs) O 240 [a0, a1, a2, a3] (.int 3 :: st) h := e_F_op rfl rfl
theorem zL_law_240 {L : Nat} {xs : Nat → Int32} {O : e_O} {a0 a1 a2 a3 : Value} {st : List Value} {h : e_H} {y : Int32} {x : Int32} : e_F (kL_law L xs) O 240 [a0, a1, a2, a3] (.int y :: .int x :: st) h = e_F (kL_law L xs) O 241 [a0, a1, a2, a3] (.int (x + y) :: st) h := e_F_op rfl rfl
theorem zL_law_241 {L : Nat} {xs : Nat → Int32} {O : e_O} {a0 a1 a2 a3 : Value} {st : List Value} {h : e_H} {i : Int32} : e_F (kL_law L xs) O 241 [a0, a1, a2, a3] (.int i :: .retAddr 0 :: st) h = if e_inb i L = true then e_F (kL_law L xs) O 242 [a0, a1, a2, a3] (.int (xs i.toNatClampNeg) :: st) h else none := f_sld rfl
theorem zL_law_242 {L : Nat} {xs : Nat → Int32} {O : e_O} {a1 a2 a3 : Value} {st : List Value} {h : e_H} {x : Nat} : e_F (kL_law L xs) O 242 [.retAddr x, a1, a2, a3] (st) h = e_F (kL_law L xs) O 243 [.retAddr x, a1, a2, a3] (.retAddr x :: st) h := e_F_op rfl rfl
theorem zL_law_243 {L : Nat} {xs : Nat → Int32} {O : e_O} {a0 a1 a2 : Value} {st : List Value} {h : e_H} {x : Int32} : e_F (kL_law L xs) O 243 [a0, a1, a2, .int x] (st) h = e_F (kL_law L xs) O 244 [a0, a1, a2, .int x] (.int x :: st) h := e_F_op rfl rfl
theorem zL_law_244 {L : Nat} {xs : Nat → Int32} {O : e_O} {a0 a1 a2 a3 : Value} {st : List Value} {h : e_H}  : e_F (kL_law L xs) O 244 [a0, a1, a2, a3] (st) h = e_F (kL_law L xs) O 245 [a0, a1, a2, a3] (.int 4 :: st) h := e_F_op rfl rfl
theorem zL_law_245 {L : Nat} {xs : Nat → Int32} {O : e_O} {a0 a1 a2 a3 : Value} {st : List Value} {h : e_H} {y : Int32} {x : Int32} : e_F (kL_law L xs) O 245 [a0, a1, a2, a3] (.int y :: .int x :: st) h = e_F (kL_law L xs) O 246 [a0, a1, a2, a3] (.int (x + y) :: st) h := e_F_op rfl rfl
theorem zL_law_246 {L : Nat} {xs : Nat → Int32} {O : e_O} {a0 a1 a2 a3 : Value} {st : List Value} {h : e_H} {i : Int32} : e_F (kL_law L xs) O 246 [a0, a1, a2, a3] (.int i :: .retAddr 0 :: st) h = if e_inb i L = true then e_F (kL_law L xs) O 247 [a0, a1, a2, a3] (.int (xs i.toNatClampNeg) :: st) h else none := f_sld rfl
theorem zL_law_247 {L : Nat} {xs : Nat → Int32} {O : e_O} {a0 a1 a2 a3 : Value} {st : List Value} {h : e_H} {v0 : Int32} {v1 : Int32} {v2 : Int32} {v3 : Int32} : e_F (kL_law L xs) O 247 [a0, a1, a2, a3] (.int v3 :: .int v2 :: .int v1 :: .int v0 :: .ref 40 :: st) h = if e_cats st ≤ 8 then (O 92 [.ref 40, .int v0, .int v1, .int v2, .int v3] h).bind (fun q => e_F (kL_law L xs) O 250 [a0, a1, a2, a3] (q.1.toList ++ st) q.2) else none := f_cV rfl rfl rfl rfl
theorem zL_law_250 {L : Nat} {xs : Nat → Int32} {O : e_O} {a0 a1 a2 a3 : Value} {st : List Value} {h : e_H} {y : Int32} {x : Int32} : e_F (kL_law L xs) O 250 [a0, a1, a2, a3] (.int y :: .int x :: st) h = if x = y then e_F (kL_law L xs) O 1009 [a0, a1, a2, a3] (st) h else e_F (kL_law L xs) O 253 [a0, a1, a2, a3] (st) h := f_ic (P := fun x y => x = y) rfl
theorem zL_law_253 {L : Nat} {xs : Nat → Int32} {O : e_O} {a0 a1 a2 a3 : Value} {st : List Value} {h : e_H}  : e_F (kL_law L xs) O 253 [a0, a1, a2, a3] (st) h = e_F (kL_law L xs) O 254 [a0, a1, a2, a3] (.int 0 :: st) h := e_F_op rfl rfl
theorem zL_law_254 {L : Nat} {xs : Nat → Int32} {O : e_O} {a0 a1 a2 a3 : Value}  {h : e_H} {x : Int32} : e_F (kL_law L xs) O 254 [a0, a1, a2, a3] ([.int x]) h = if x = 0 ∨ x = 1 then some (some (.int x), h) else none := f_retZ rfl
theorem zL_law_255 {L : Nat} {xs : Nat → Int32} {O : e_O} {a0 a2 a3 : Value} {st : List Value} {h : e_H} {x : Nat} : e_F (kL_law L xs) O 255 [a0, .ref x, a2, a3] (st) h = e_F (kL_law L xs) O 256 [a0, .ref x, a2, a3] (.ref x :: st) h := e_F_op rfl rfl
theorem zL_law_256 {L : Nat} {xs : Nat → Int32} {O : e_O} {a1 a2 a3 : Value} {st : List Value} {h : e_H} {x : Nat} : e_F (kL_law L xs) O 256 [.retAddr x, a1, a2, a3] (st) h = e_F (kL_law L xs) O 257 [.retAddr x, a1, a2, a3] (.retAddr x :: st) h := e_F_op rfl rfl
theorem zL_law_257 {L : Nat} {xs : Nat → Int32} {O : e_O} {a0 a1 a2 : Value} {st : List Value} {h : e_H} {x : Int32} : e_F (kL_law L xs) O 257 [a0, a1, a2, .int x] (st) h = e_F (kL_law L xs) O 258 [a0, a1, a2, .int x] (.int x :: st) h := e_F_op rfl rfl
theorem zL_law_258 {L : Nat} {xs : Nat → Int32} {O : e_O} {a0 a1 a2 a3 : Value} {st : List Value} {h : e_H}  : e_F (kL_law L xs) O 258 [a0, a1, a2, a3] (st) h = e_F (kL_law L xs) O 259 [a0, a1, a2, a3] (.int 1 :: st) h := e_F_op rfl rfl
theorem zL_law_259 {L : Nat} {xs : Nat → Int32} {O : e_O} {a0 a1 a2 a3 : Value} {st : List Value} {h : e_H} {y : Int32} {x : Int32} : e_F (kL_law L xs) O 259 [a0, a1, a2, a3] (.int y :: .int x :: st) h = e_F (kL_law L xs) O 260 [a0, a1, a2, a3] (.int (x + y) :: st) h := e_F_op rfl rfl
theorem zL_law_260 {L : Nat} {xs : Nat → Int32} {O : e_O} {a0 a1 a2 a3 : Value} {st : List Value} {h : e_H} {i : Int32} : e_F (kL_law L xs) O 260 [a0, a1, a2, a3] (.int i :: .retAddr 0 :: st) h = if e_inb i L = true then e_F (kL_law L xs) O 261 [a0, a1, a2, a3] (.int (xs i.toNatClampNeg) :: st) h else none := f_sld rfl
theorem zL_law_261 {L : Nat} {xs : Nat → Int32} {O : e_O} {a1 a2 a3 : Value} {st : List Value} {h : e_H} {x : Nat} : e_F (kL_law L xs) O 261 [.retAddr x, a1, a2, a3] (st) h = e_F (kL_law L xs) O 262 [.retAddr x, a1, a2, a3] (.retAddr x :: st) h := e_F_op rfl rfl
theorem zL_law_262 {L : Nat} {xs : Nat → Int32} {O : e_O} {a0 a1 a2 : Value} {st : List Value} {h : e_H} {x : Int32} : e_F (kL_law L xs) O 262 [a0, a1, a2, .int x] (st) h = e_F (kL_law L xs) O 263 [a0, a1, a2, .int x] (.int x :: st) h := e_F_op rfl rfl
theorem zL_law_263 {L : Nat} {xs : Nat → Int32} {O : e_O} {a0 a1 a2 a3 : Value} {st : List Value} {h : e_H}  : e_F (kL_law L xs) O 263 [a0, a1, a2, a3] (st) h = e_F (kL_law L xs) O 264 [a0, a1, a2, a3] (.int 2 :: st) h := e_F_op rfl rfl
theorem zL_law_264 {L : Nat} {xs : Nat → Int32} {O : e_O} {a0 a1 a2 a3 : Value} {st : List Value} {h : e_H} {y : Int32} {x : Int32} : e_F (kL_law L xs) O 264 [a0, a1, a2, a3] (.int y :: .int x :: st) h = e_F (kL_law L xs) O 265 [a0, a1, a2, a3] (.int (x + y) :: st) h := e_F_op rfl rfl
theorem zL_law_265 {L : Nat} {xs : Nat → Int32} {O : e_O} {a0 a1 a2 a3 : Value} {st : List Value} {h : e_H} {i : Int32} : e_F (kL_law L xs) O 265 [a0, a1, a2, a3] (.int i :: .retAddr 0 :: st) h = if e_inb i L = true then e_F (kL_law L xs) O 266 [a0, a1, a2, a3] (.int (xs i.toNatClampNeg) :: st) h else none := f_sld rfl
theorem zL_law_266 {L : Nat} {xs : Nat → Int32} {O : e_O} {a1 a2 a3 : Value} {st : List Value} {h : e_H} {x : Nat} : e_F (kL_law L xs) O 266 [.retAddr x, a1, a2, a3] (st) h = e_F (kL_law L xs) O 267 [.retAddr x, a1, a2, a3] (.retAddr x :: st) h := e_F_op rfl rfl
theorem zL_law_267 {L : Nat} {xs : Nat → Int32} {O : e_O} {a0 a1 a2 : Value} {st : List Value} {h : e_H} {x : Int32} : e_F (kL_law L xs) O 267 [a0, a1, a2, .int x] (st) h = e_F (kL_law L xs) O 268 [a0, a1, a2, .int x] (.int x :: st) h := e_F_op rfl rfl
theorem zL_law_268 {L : Nat} {xs : Nat → Int32} {O : e_O} {a0 a1 a2 a3 : Value} {st : List Value} {h : e_H}  : e_F (kL_law L xs) O 268 [a0, a1, a2, a3] (st) h = e_F (kL_law L xs) O 269 [a0, a1, a2, a3] (.int 3 :: st) h := e_F_op rfl rfl
theorem zL_law_269 {L : Nat} {xs : Nat → Int32} {O : e_O} {a0 a1 a2 a3 : Value} {st : List Value} {h : e_H} {y : Int32} {x : Int32} : e_F (kL_law L xs) O 269 [a0, a1, a2, a3] (.int y :: .int x :: st) h = e_F (kL_law L xs) O 270 [a0, a1, a2, a3] (.int (x + y) :: st) h := e_F_op rfl rfl
theorem zL_law_270 {L : Nat} {xs : Nat → Int32} {O : e_O} {a0 a1 a2 a3 : Value} {st : List Value} {h : e_H} {i : Int32} : e_F (kL_law L xs) O 270 [a0, a1, a2, a3] (.int i :: .retAddr 0 :: st) h = if e_inb i L = true then e_F (kL_law L xs) O 271 [a0, a1, a2, a3] (.int (xs i.toNatClampNeg) :: st) h else none := f_sld rfl
theorem zL_law_271 {L : Nat} {xs : Nat → Int32} {O : e_O} {a0 a1 a2 a3 : Value} {st : List Value} {h : e_H} {v0 : Int32} {v1 : Int32} {v2 : Int32} : e_F (kL_law L xs) O 271 [a0, a1, a2, a3] (.int v2 :: .int v1 :: .int v0 :: .ref 0 :: st) h = if e_cats st ≤ 8 then (O 34 [.ref 0, .int v0, .int v1, .int v2] h).bind (fun q => e_F (kL_law L xs) O 274 [a0, a1, a2, a3] (q.1.toList ++ st) q.2) else none := f_cV rfl rfl rfl rfl
theorem zL_law_274 {L : Nat} {xs : Nat → Int32} {O : e_O} {a0 a1 a3 : Value} {st : List Value} {h : e_H} {x : Nat} : e_F (kL_law L xs) O 274 [a0, a1, .ref x, a3] (st) h = e_F (kL_law L xs) O 275 [a0, a1, .ref x, a3] (.ref x :: st) h := e_F_op rfl rfl
theorem zL_law_275 {L : Nat} {xs : Nat → Int32} {O : e_O} {a1 a2 a3 : Value} {st : List Value} {h : e_H} {x : Nat} : e_F (kL_law L xs) O 275 [.retAddr x, a1, a2, a3] (st) h = e_F (kL_law L xs) O 276 [.retAddr x, a1, a2, a3] (.retAddr x :: st) h := e_F_op rfl rfl
theorem zL_law_276 {L : Nat} {xs : Nat → Int32} {O : e_O} {a0 a1 a2 : Value} {st : List Value} {h : e_H} {x : Int32} : e_F (kL_law L xs) O 276 [a0, a1, a2, .int x] (st) h = e_F (kL_law L xs) O 277 [a0, a1, a2, .int x] (.int x :: st) h := e_F_op rfl rfl
theorem zL_law_277 {L : Nat} {xs : Nat → Int32} {O : e_O} {a0 a1 a2 a3 : Value} {st : List Value} {h : e_H}  : e_F (kL_law L xs) O 277 [a0, a1, a2, a3] (st) h = e_F (kL_law L xs) O 278 [a0, a1, a2, a3] (.int 1 :: st) h := e_F_op rfl rfl
theorem zL_law_278 {L : Nat} {xs : Nat → Int32} {O : e_O} {a0 a1 a2 a3 : Value} {st : List Value} {h : e_H} {y : Int32} {x : Int32} : e_F (kL_law L xs) O 278 [a0, a1, a2, a3] (.int y :: .int x :: st) h = e_F (kL_law L xs) O 279 [a0, a1, a2, a3] (.int (x + y) :: st) h := e_F_op rfl rfl
theorem zL_law_279 {L : Nat} {xs : Nat → Int32} {O : e_O} {a0 a1 a2 a3 : Value} {st : List Value} {h : e_H} {i : Int32} : e_F (kL_law L xs) O 279 [a0, a1, a2, a3] (.int i :: .retAddr 0 :: st) h = if e_inb i L = true then e_F (kL_law L xs) O 280 [a0, a1, a2, a3] (.int (xs i.toNatClampNeg) :: st) h else none := f_sld rfl
theorem zL_law_280 {L : Nat} {xs : Nat → Int32} {O : e_O} {a1 a2 a3 : Value} {st : List Value} {h : e_H} {x : Nat} : e_F (kL_law L xs) O 280 [.retAddr x, a1, a2, a3] (st) h = e_F (kL_law L xs) O 281 [.retAddr x, a1, a2, a3] (.retAddr x :: st) h := e_F_op rfl rfl
theorem zL_law_281 {L : Nat} {xs : Nat → Int32} {O : e_O} {a0 a1 a2 : Value} {st : List Value} {h : e_H} {x : Int32} : e_F (kL_law L xs) O 281 [a0, a1, a2, .int x] (st) h = e_F (kL_law L xs) O 282 [a0, a1, a2, .int x] (.int x :: st) h := e_F_op rfl rfl
theorem zL_law_282 {L : Nat} {xs : Nat → Int32} {O : e_O} {a0 a1 a2 a3 : Value} {st : List Value} {h : e_H}  : e_F (kL_law L xs) O 282 [a0, a1, a2, a3] (st) h = e_F (kL_law L xs) O 283 [a0, a1, a2, a3] (.int 2 :: st) h := e_F_op rfl rfl
theorem zL_law_283 {L : Nat} {xs : Nat → Int32} {O : e_O} {a0 a1 a2 a3 : Value} {st : List Value} {h : e_H} {y : Int32} {x : Int32} : e_F (kL_law L xs) O 283 [a0, a1, a2, a3] (.int y :: .int x :: st) h = e_F (kL_law L xs) O 284 [a0, a1, a2, a3] (.int (x + y) :: st) h := e_F_op rfl rfl
theorem zL_law_284 {L : Nat} {xs : Nat → Int32} {O : e_O} {a0 a1 a2 a3 : Value} {st : List Value} {h : e_H} {i : Int32} : e_F (kL_law L xs) O 284 [a0, a1, a2, a3] (.int i :: .retAddr 0 :: st) h = if e_inb i L = true then e_F (kL_law L xs) O 285 [a0, a1, a2, a3] (.int (xs i.toNatClampNeg) :: st) h else none := f_sld rfl
theorem zL_law_285 {L : Nat} {xs : Nat → Int32} {O : e_O} {a1 a2 a3 : Value} {st : List Value} {h : e_H} {x : Nat} : e_F (kL_law L xs) O 285 [.retAddr x, a1, a2, a3] (st) h = e_F (kL_law L xs) O 286 [.retAddr x, a1, a2, a3] (.retAddr x :: st) h := e_F_op rfl rfl
theorem zL_law_286 {L : Nat} {xs : Nat → Int32} {O : e_O} {a0 a1 a2 : Value} {st : List Value} {h : e_H} {x : Int32} : e_F (kL_law L xs) O 286 [a0, a1, a2, .int x] (st) h = e_F (kL_law L xs) O 287 [a0, a1, a2, .int x] (.int x :: st) h := e_F_op rfl rfl
theorem zL_law_287 {L : Nat} {xs : Nat → Int32} {O : e_O} {a0 a1 a2 a3 : Value} {st : List Value} {h : e_H}  : e_F (kL_law L xs) O 287 [a0, a1, a2, a3] (st) h = e_F (kL_law L xs) O 288 [a0, a1, a2, a3] (.int 3 :: st) h := e_F_op rfl rfl
theorem zL_law_288 {L : Nat} {xs : Nat → Int32} {O : e_O} {a0 a1 a2 a3 : Value} {st : List Value} {h : e_H} {y : Int32} {x : Int32} : e_F (kL_law L xs) O 288 [a0, a1, a2, a3] (.int y :: .int x :: st) h = e_F (kL_law L xs) O 289 [a0, a1, a2, a3] (.int (x + y) :: st) h := e_F_op rfl rfl
theorem zL_law_289 {L : Nat} {xs : Nat → Int32} {O : e_O} {a0 a1 a2 a3 : Value} {st : List Value} {h : e_H} {i : Int32} : e_F (kL_law L xs) O 289 [a0, a1, a2, a3] (.int i :: .retAddr 0 :: st) h = if e_inb i L = true then e_F (kL_law L xs) O 290 [a0, a1, a2, a3] (.int (xs i.toNatClampNeg) :: st) h else none := f_sld rfl
theorem zL_law_290 {L : Nat} {xs : Nat → Int32} {O : e_O} {a0 a1 a2 a3 : Value} {st : List Value} {h : e_H} {v0 : Int32} {v1 : Int32} {v2 : Int32} : e_F (kL_law L xs) O 290 [a0, a1, a2, a3] (.int v2 :: .int v1 :: .int v0 :: .ref 40 :: st) h = if e_cats st ≤ 8 then (O 96 [.ref 40, .int v0, .int v1, .int v2] h).bind (fun q => e_F (kL_law L xs) O 293 [a0, a1, a2, a3] (q.1.toList ++ st) q.2) else none := f_cV rfl rfl rfl rfl
theorem zL_law_293 {L : Nat} {xs : Nat → Int32} {O : e_O} {a0 a1 a2 a3 : Value} {st : List Value} {h : e_H} {y : Int32} {x : Int32} : e_F (kL_law L xs) O 293 [a0, a1, a2, a3] (.int y :: .int x :: st) h = if x = y then e_F (kL_law L xs) O 1009 [a0, a1, a2, a3] (st) h else e_F (kL_law L xs) O 296 [a0, a1, a2, a3] (st) h := f_ic (P := fun x y => x = y) rfl
theorem zL_law_296 {L : Nat} {xs : Nat → Int32} {O : e_O} {a0 a1 a2 a3 : Value} {st : List Value} {h : e_H}  : e_F (kL_law L xs) O 296 [a0, a1, a2, a3] (st) h = e_F (kL_law L xs) O 297 [a0, a1, a2, a3] (.int 0 :: st) h := e_F_op rfl rfl
theorem zL_law_297 {L : Nat} {xs : Nat → Int32} {O : e_O} {a0 a1 a2 a3 : Value}  {h : e_H} {x : Int32} : e_F (kL_law L xs) O 297 [a0, a1, a2, a3] ([.int x]) h = if x = 0 ∨ x = 1 then some (some (.int x), h) else none := f_retZ rfl
theorem zL_law_298 {L : Nat} {xs : Nat → Int32} {O : e_O} {a0 a2 a3 : Value} {st : List Value} {h : e_H} {x : Nat} : e_F (kL_law L xs) O 298 [a0, .ref x, a2, a3] (st) h = e_F (kL_law L xs) O 299 [a0, .ref x, a2, a3] (.ref x :: st) h := e_F_op rfl rfl
theorem zL_law_299 {L : Nat} {xs : Nat → Int32} {O : e_O} {a1 a2 a3 : Value} {st : List Value} {h : e_H} {x : Nat} : e_F (kL_law L xs) O 299 [.retAddr x, a1, a2, a3] (st) h = e_F (kL_law L xs) O 300 [.retAddr x, a1, a2, a3] (.retAddr x :: st) h := e_F_op rfl rfl
theorem zL_law_300 {L : Nat} {xs : Nat → Int32} {O : e_O} {a0 a1 a2 : Value} {st : List Value} {h : e_H} {x : Int32} : e_F (kL_law L xs) O 300 [a0, a1, a2, .int x] (st) h = e_F (kL_law L xs) O 301 [a0, a1, a2, .int x] (.int x :: st) h := e_F_op rfl rfl
theorem zL_law_301 {L : Nat} {xs : Nat → Int32} {O : e_O} {a0 a1 a2 a3 : Value} {st : List Value} {h : e_H}  : e_F (kL_law L xs) O 301 [a0, a1, a2, a3] (st) h = e_F (kL_law L xs) O 302 [a0, a1, a2, a3] (.int 1 :: st) h := e_F_op rfl rfl
theorem zL_law_302 {L : Nat} {xs : Nat → Int32} {O : e_O} {a0 a1 a2 a3 : Value} {st : List Value} {h : e_H} {y : Int32} {x : Int32} : e_F (kL_law L xs) O 302 [a0, a1, a2, a3] (.int y :: .int x :: st) h = e_F (kL_law L xs) O 303 [a0, a1, a2, a3] (.int (x + y) :: st) h := e_F_op rfl rfl
theorem zL_law_303 {L : Nat} {xs : Nat → Int32} {O : e_O} {a0 a1 a2 a3 : Value} {st : List Value} {h : e_H} {i : Int32} : e_F (kL_law L xs) O 303 [a0, a1, a2, a3] (.int i :: .retAddr 0 :: st) h = if e_inb i L = true then e_F (kL_law L xs) O 304 [a0, a1, a2, a3] (.int (xs i.toNatClampNeg) :: st) h else none := f_sld rfl
theorem zL_law_304 {L : Nat} {xs : Nat → Int32} {O : e_O} {a1 a2 a3 : Value} {st : List Value} {h : e_H} {x : Nat} : e_F (kL_law L xs) O 304 [.retAddr x, a1, a2, a3] (st) h = e_F (kL_law L xs) O 305 [.retAddr x, a1, a2, a3] (.retAddr x :: st) h := e_F_op rfl rfl
theorem zL_law_305 {L : Nat} {xs : Nat → Int32} {O : e_O} {a0 a1 a2 : Value} {st : List Value} {h : e_H} {x : Int32} : e_F (kL_law L xs) O 305 [a0, a1, a2, .int x] (st) h = e_F (kL_law L xs) O 306 [a0, a1, a2, .int x] (.int x :: st) h := e_F_op rfl rfl
theorem zL_law_306 {L : Nat} {xs : Nat → Int32} {O : e_O} {a0 a1 a2 a3 : Value} {st : List Value} {h : e_H}  : e_F (kL_law L xs) O 306 [a0, a1, a2, a3] (st) h = e_F (kL_law L xs) O 307 [a0, a1, a2, a3] (.int 2 :: st) h := e_F_op rfl rfl
theorem zL_law_307 {L : Nat} {xs : Nat → Int32} {O : e_O} {a0 a1 a2 a3 : Value} {st : List Value} {h : e_H} {y : Int32} {x : Int32} : e_F (kL_law L xs) O 307 [a0, a1, a2, a3] (.int y :: .int x :: st) h = e_F (kL_law L xs) O 308 [a0, a1, a2, a3] (.int (x + y) :: st) h := e_F_op rfl rfl
theorem zL_law_308 {L : Nat} {xs : Nat → Int32} {O : e_O} {a0 a1 a2 a3 : Value} {st : List Value} {h : e_H} {i : Int32} : e_F (kL_law L xs) O 308 [a0, a1, a2, a3] (.int i :: .retAddr 0 :: st) h = if e_inb i L = true then e_F (kL_law L xs) O 309 [a0, a1, a2, a3] (.int (xs i.toNatClampNeg) :: st) h else none := f_sld rfl
theorem zL_law_309 {L : Nat} {xs : Nat → Int32} {O : e_O} {a1 a2 a3 : Value} {st : List Value} {h : e_H} {x : Nat} : e_F (kL_law L xs) O 309 [.retAddr x, a1, a2, a3] (st) h = e_F (kL_law L xs) O 310 [.retAddr x, a1, a2, a3] (.retAddr x :: st) h := e_F_op rfl rfl
theorem zL_law_310 {L : Nat} {xs : Nat → Int32} {O : e_O} {a0 a1 a2 : Value} {st : List Value} {h : e_H} {x : Int32} : e_F (kL_law L xs) O 310 [a0, a1, a2, .int x] (st) h = e_F (kL_law L xs) O 311 [a0, a1, a2, .int x] (.int x :: st) h := e_F_op rfl rfl
theorem zL_law_311 {L : Nat} {xs : Nat → Int32} {O : e_O} {a0 a1 a2 a3 : Value} {st : List Value} {h : e_H}  : e_F (kL_law L xs) O 311 [a0, a1, a2, a3] (st) h = e_F (kL_law L xs) O 312 [a0, a1, a2, a3] (.int 3 :: st) h := e_F_op rfl rfl
theorem zL_law_312 {L : Nat} {xs : Nat → Int32} {O : e_O} {a0 a1 a2 a3 : Value} {st : List Value} {h : e_H} {y : Int32} {x : Int32} : e_F (kL_law L xs) O 312 [a0, a1, a2, a3] (.int y :: .int x :: st) h = e_F (kL_law L xs) O 313 [a0, a1, a2, a3] (.int (x + y) :: st) h := e_F_op rfl rfl
theorem zL_law_313 {L : Nat} {xs : Nat → Int32} {O : e_O} {a0 a1 a2 a3 : Value} {st : List Value} {h : e_H} {i : Int32} : e_F (kL_law L xs) O 313 [a0, a1, a2, a3] (.int i :: .retAddr 0 :: st) h = if e_inb i L = true then e_F (kL_law L xs) O 314 [a0, a1, a2, a3] (.int (xs i.toNatClampNeg) :: st) h else none := f_sld rfl
theorem zL_law_314 {L : Nat} {xs : Nat → Int32} {O : e_O} {a0 a1 a2 a3 : Value} {st : List Value} {h : e_H} {v0 : Int32} {v1 : Int32} {v2 : Int32} : e_F (kL_law L xs) O 314 [a0, a1, a2, a3] (.int v2 :: .int v1 :: .int v0 :: .ref 0 :: st) h = if e_cats st ≤ 8 then (O 35 [.ref 0, .int v0, .int v1, .int v2] h).bind (fun q => e_F (kL_law L xs) O 317 [a0, a1, a2, a3] (q.1.toList ++ st) q.2) else none := f_cV rfl rfl rfl rfl
theorem zL_law_317 {L : Nat} {xs : Nat → Int32} {O : e_O} {a0 a1 a3 : Value} {st : List Value} {h : e_H} {x : Nat} : e_F (kL_law L xs) O 317 [a0, a1, .ref x, a3] (st) h = e_F (kL_law L xs) O 318 [a0, a1, .ref x, a3] (.ref x :: st) h := e_F_op rfl rfl
theorem zL_law_318 {L : Nat} {xs : Nat → Int32} {O : e_O} {a1 a2 a3 : Value} {st : List Value} {h : e_H} {x : Nat} : e_F (kL_law L xs) O 318 [.retAddr x, a1, a2, a3] (st) h = e_F (kL_law L xs) O 319 [.retAddr x, a1, a2, a3] (.retAddr x :: st) h := e_F_op rfl rfl
theorem zL_law_319 {L : Nat} {xs : Nat → Int32} {O : e_O} {a0 a1 a2 : Value} {st : List Value} {h : e_H} {x : Int32} : e_F (kL_law L xs) O 319 [a0, a1, a2, .int x] (st) h = e_F (kL_law L xs) O 320 [a0, a1, a2, .int x] (.int x :: st) h := e_F_op rfl rfl
theorem zL_law_320 {L : Nat} {xs : Nat → Int32} {O : e_O} {a0 a1 a2 a3 : Value} {st : List Value} {h : e_H}  : e_F (kL_law L xs) O 320 [a0, a1, a2, a3] (st) h = e_F (kL_law L xs) O 321 [a0, a1, a2, a3] (.int 1 :: st) h := e_F_op rfl rfl
theorem zL_law_321 {L : Nat} {xs : Nat → Int32} {O : e_O} {a0 a1 a2 a3 : Value} {st : List Value} {h : e_H} {y : Int32} {x : Int32} : e_F (kL_law L xs) O 321 [a0, a1, a2, a3] (.int y :: .int x :: st) h = e_F (kL_law L xs) O 322 [a0, a1, a2, a3] (.int (x + y) :: st) h := e_F_op rfl rfl
theorem zL_law_322 {L : Nat} {xs : Nat → Int32} {O : e_O} {a0 a1 a2 a3 : Value} {st : List Value} {h : e_H} {i : Int32} : e_F (kL_law L xs) O 322 [a0, a1, a2, a3] (.int i :: .retAddr 0 :: st) h = if e_inb i L = true then e_F (kL_law L xs) O 323 [a0, a1, a2, a3] (.int (xs i.toNatClampNeg) :: st) h else none := f_sld rfl
theorem zL_law_323 {L : Nat} {xs : Nat → Int32} {O : e_O} {a1 a2 a3 : Value} {st : List Value} {h : e_H} {x : Nat} : e_F (kL_law L xs) O 323 [.retAddr x, a1, a2, a3] (st) h = e_F (kL_law L xs) O 324 [.retAddr x, a1, a2, a3] (.retAddr x :: st) h := e_F_op rfl rfl
theorem zL_law_324 {L : Nat} {xs : Nat → Int32} {O : e_O} {a0 a1 a2 : Value} {st : List Value} {h : e_H} {x : Int32} : e_F (kL_law L xs) O 324 [a0, a1, a2, .int x] (st) h = e_F (kL_law L xs) O 325 [a0, a1, a2, .int x] (.int x :: st) h := e_F_op rfl rfl
theorem zL_law_325 {L : Nat} {xs : Nat → Int32} {O : e_O} {a0 a1 a2 a3 : Value} {st : List Value} {h : e_H}  : e_F (kL_law L xs) O 325 [a0, a1, a2, a3] (st) h = e_F (kL_law L xs) O 326 [a0, a1, a2, a3] (.int 2 :: st) h := e_F_op rfl rfl
theorem zL_law_326 {L : Nat} {xs : Nat → Int32} {O : e_O} {a0 a1 a2 a3 : Value} {st : List Value} {h : e_H} {y : Int32} {x : Int32} : e_F (kL_law L xs) O 326 [a0, a1, a2, a3] (.int y :: .int x :: st) h = e_F (kL_law L xs) O 327 [a0, a1, a2, a3] (.int (x + y) :: st) h := e_F_op rfl rfl
theorem zL_law_327 {L : Nat} {xs : Nat → Int32} {O : e_O} {a0 a1 a2 a3 : Value} {st : List Value} {h : e_H} {i : Int32} : e_F (kL_law L xs) O 327 [a0, a1, a2, a3] (.int i :: .retAddr 0 :: st) h = if e_inb i L = true then e_F (kL_law L xs) O 328 [a0, a1, a2, a3] (.int (xs i.toNatClampNeg) :: st) h else none := f_sld rfl
theorem zL_law_328 {L : Nat} {xs : Nat → Int32} {O : e_O} {a1 a2 a3 : Value} {st : List Value} {h : e_H} {x : Nat} : e_F (kL_law L xs) O 328 [.retAddr x, a1, a2, a3] (st) h = e_F (kL_law L xs) O 329 [.retAddr x, a1, a2, a3] (.retAddr x :: st) h := e_F_op rfl rfl
theorem zL_law_329 {L : Nat} {xs : Nat → Int32} {O : e_O} {a0 a1 a2 : Value} {st : List Value} {h : e_H} {x : Int32} : e_F (kL_law L xs) O 329 [a0, a1, a2, .int x] (st) h = e_F (kL_law L xs) O 330 [a0, a1, a2, .int x] (.int x :: st) h := e_F_op rfl rfl
theorem zL_law_330 {L : Nat} {xs : Nat → Int32} {O : e_O} {a0 a1 a2 a3 : Value} {st : List Value} {h : e_H}  : e_F (kL_law L xs) O 330 [a0, a1, a2, a3] (st) h = e_F (kL_law L xs) O 331 [a0, a1, a2, a3] (.int 3 :: st) h := e_F_op rfl rfl
theorem zL_law_331 {L : Nat} {xs : Nat → Int32} {O : e_O} {a0 a1 a2 a3 : Value} {st : List Value} {h : e_H} {y : Int32} {x : Int32} : e_F (kL_law L xs) O 331 [a0, a1, a2, a3] (.int y :: .int x :: st) h = e_F (kL_law L xs) O 332 [a0, a1, a2, a3] (.int (x + y) :: st) h := e_F_op rfl rfl
theorem zL_law_332 {L : Nat} {xs : Nat → Int32} {O : e_O} {a0 a1 a2 a3 : Value} {st : List Value} {h : e_H} {i : Int32} : e_F (kL_law L xs) O 332 [a0, a1, a2, a3] (.int i :: .retAddr 0 :: st) h = if e_inb i L = true then e_F (kL_law L xs) O 333 [a0, a1, a2, a3] (.int (xs i.toNatClampNeg) :: st) h else none := f_sld rfl
theorem zL_law_333 {L : Nat} {xs : Nat → Int32} {O : e_O} {a0 a1 a2 a3 : Value} {st : List Value} {h : e_H} {v0 : Int32} {v1 : Int32} {v2 : Int32} : e_F (kL_law L xs) O 333 [a0, a1, a2, a3] (.int v2 :: .int v1 :: .int v0 :: .ref 40 :: st) h = if e_cats st ≤ 8 then (O 97 [.ref 40, .int v0, .int v1, .int v2] h).bind (fun q => e_F (kL_law L xs) O 336 [a0, a1, a2, a3] (q.1.toList ++ st) q.2) else none := f_cV rfl rfl rfl rfl
theorem zL_law_336 {L : Nat} {xs : Nat → Int32} {O : e_O} {a0 a1 a2 a3 : Value} {st : List Value} {h : e_H} {y : Int32} {x : Int32} : e_F (kL_law L xs) O 336 [a0, a1, a2, a3] (.int y :: .int x :: st) h = if x = y then e_F (kL_law L xs) O 1009 [a0, a1, a2, a3] (st) h else e_F (kL_law L xs) O 339 [a0, a1, a2, a3] (st) h := f_ic (P := fun x y => x = y) rfl
theorem zL_law_339 {L : Nat} {xs : Nat → Int32} {O : e_O} {a0 a1 a2 a3 : Value} {st : List Value} {h : e_H}  : e_F (kL_law L xs) O 339 [a0, a1, a2, a3] (st) h = e_F (kL_law L xs) O 340 [a0, a1, a2, a3] (.int 0 :: st) h := e_F_op rfl rfl
theorem zL_law_340 {L : Nat} {xs : Nat → Int32} {O : e_O} {a0 a1 a2 a3 : Value}  {h : e_H} {x : Int32} : e_F (kL_law L xs) O 340 [a0, a1, a2, a3] ([.int x]) h = if x = 0 ∨ x = 1 then some (some (.int x), h) else none := f_retZ rfl
theorem zL_law_341 {L : Nat} {xs : Nat → Int32} {O : e_O} {a0 a2 a3 : Value} {st : List Value} {h : e_H} {x : Nat} : e_F (kL_law L xs) O 341 [a0, .ref x, a2, a3] (st) h = e_F (kL_law L xs) O 342 [a0, .ref x, a2, a3] (.ref x :: st) h := e_F_op rfl rfl
theorem zL_law_342 {L : Nat} {xs : Nat → Int32} {O : e_O} {a1 a2 a3 : Value} {st : List Value} {h : e_H} {x : Nat} : e_F (kL_law L xs) O 342 [.retAddr x, a1, a2, a3] (st) h = e_F (kL_law L xs) O 343 [.retAddr x, a1, a2, a3] (.retAddr x :: st) h := e_F_op rfl rfl
theorem zL_law_343 {L : Nat} {xs : Nat → Int32} {O : e_O} {a0 a1 a2 : Value} {st : List Value} {h : e_H} {x : Int32} : e_F (kL_law L xs) O 343 [a0, a1, a2, .int x] (st) h = e_F (kL_law L xs) O 344 [a0, a1, a2, .int x] (.int x :: st) h := e_F_op rfl rfl
theorem zL_law_344 {L : Nat} {xs : Nat → Int32} {O : e_O} {a0 a1 a2 a3 : Value} {st : List Value} {h : e_H}  : e_F (kL_law L xs) O 344 [a0, a1, a2, a3] (st) h = e_F (kL_law L xs) O 345 [a0, a1, a2, a3] (.int 1 :: st) h := e_F_op rfl rfl
theorem zL_law_345 {L : Nat} {xs : Nat → Int32} {O : e_O} {a0 a1 a2 a3 : Value} {st : List Value} {h : e_H} {y : Int32} {x : Int32} : e_F (kL_law L xs) O 345 [a0, a1, a2, a3] (.int y :: .int x :: st) h = e_F (kL_law L xs) O 346 [a0, a1, a2, a3] (.int (x + y) :: st) h := e_F_op rfl rfl
theorem zL_law_346 {L : Nat} {xs : Nat → Int32} {O : e_O} {a0 a1 a2 a3 : Value} {st : List Value} {h : e_H} {i : Int32} : e_F (kL_law L xs) O 346 [a0, a1, a2, a3] (.int i :: .retAddr 0 :: st) h = if e_inb i L = true then e_F (kL_law L xs) O 347 [a0, a1, a2, a3] (.int (xs i.toNatClampNeg) :: st) h else none := f_sld rfl
theorem zL_law_347 {L : Nat} {xs : Nat → Int32} {O : e_O} {a1 a2 a3 : Value} {st : List Value} {h : e_H} {x : Nat} : e_F (kL_law L xs) O 347 [.retAddr x, a1, a2, a3] (st) h = e_F (kL_law L xs) O 348 [.retAddr x, a1, a2, a3] (.retAddr x :: st) h := e_F_op rfl rfl
theorem zL_law_348 {L : Nat} {xs : Nat → Int32} {O : e_O} {a0 a1 a2 : Value} {st : List Value} {h : e_H} {x : Int32} : e_F (kL_law L xs) O 348 [a0, a1, a2, .int x] (st) h = e_F (kL_law L xs) O 349 [a0, a1, a2, .int x] (.int x :: st) h := e_F_op rfl rfl
theorem zL_law_349 {L : Nat} {xs : Nat → Int32} {O : e_O} {a0 a1 a2 a3 : Value} {st : List Value} {h : e_H}  : e_F (kL_law L xs) O 349 [a0, a1, a2, a3] (st) h = e_F (kL_law L xs) O 350 [a0, a1, a2, a3] (.int 2 :: st) h := e_F_op rfl rfl
theorem zL_law_350 {L : Nat} {xs : Nat → Int32} {O : e_O} {a0 a1 a2 a3 : Value} {st : List Value} {h : e_H} {y : Int32} {x : Int32} : e_F (kL_law L xs) O 350 [a0, a1, a2, a3] (.int y :: .int x :: st) h = e_F (kL_law L xs) O 351 [a0, a1, a2, a3] (.int (x + y) :: st) h := e_F_op rfl rfl
theorem zL_law_351 {L : Nat} {xs : Nat → Int32} {O : e_O} {a0 a1 a2 a3 : Value} {st : List Value} {h : e_H} {i : Int32} : e_F (kL_law L xs) O 351 [a0, a1, a2, a3] (.int i :: .retAddr 0 :: st) h = if e_inb i L = true then e_F (kL_law L xs) O 352 [a0, a1, a2, a3] (.int (xs i.toNatClampNeg) :: st) h else none := f_sld rfl
theorem zL_law_352 {L : Nat} {xs : Nat → Int32} {O : e_O} {a0 a1 a2 a3 : Value} {st : List Value} {h : e_H} {v0 : Int32} {v1 : Int32} : e_F (kL_law L xs) O 352 [a0, a1, a2, a3] (.int v1 :: .int v0 :: .ref 0 :: st) h = if e_cats st ≤ 8 then (O 36 [.ref 0, .int v0, .int v1] h).bind (fun q => e_F (kL_law L xs) O 355 [a0, a1, a2, a3] (q.1.toList ++ st) q.2) else none := f_cV rfl rfl rfl rfl
theorem zL_law_355 {L : Nat} {xs : Nat → Int32} {O : e_O} {a0 a1 a3 : Value} {st : List Value} {h : e_H} {x : Nat} : e_F (kL_law L xs) O 355 [a0, a1, .ref x, a3] (st) h = e_F (kL_law L xs) O 356 [a0, a1, .ref x, a3] (.ref x :: st) h := e_F_op rfl rfl
theorem zL_law_356 {L : Nat} {xs : Nat → Int32} {O : e_O} {a1 a2 a3 : Value} {st : List Value} {h : e_H} {x : Nat} : e_F (kL_law L xs) O 356 [.retAddr x, a1, a2, a3] (st) h = e_F (kL_law L xs) O 357 [.retAddr x, a1, a2, a3] (.retAddr x :: st) h := e_F_op rfl rfl
theorem zL_law_357 {L : Nat} {xs : Nat → Int32} {O : e_O} {a0 a1 a2 : Value} {st : List Value} {h : e_H} {x : Int32} : e_F (kL_law L xs) O 357 [a0, a1, a2, .int x] (st) h = e_F (kL_law L xs) O 358 [a0, a1, a2, .int x] (.int x :: st) h := e_F_op rfl rfl
theorem zL_law_358 {L : Nat} {xs : Nat → Int32} {O : e_O} {a0 a1 a2 a3 : Value} {st : List Value} {h : e_H}  : e_F (kL_law L xs) O 358 [a0, a1, a2, a3] (st) h = e_F (kL_law L xs) O 359 [a0, a1, a2, a3] (.int 1 :: st) h := e_F_op rfl rfl
theorem zL_law_359 {L : Nat} {xs : Nat → Int32} {O : e_O} {a0 a1 a2 a3 : Value} {st : List Value} {h : e_H} {y : Int32} {x : Int32} : e_F (kL_law L xs) O 359 [a0, a1, a2, a3] (.int y :: .int x :: st) h = e_F (kL_law L xs) O 360 [a0, a1, a2, a3] (.int (x + y) :: st) h := e_F_op rfl rfl
theorem zL_law_360 {L : Nat} {xs : Nat → Int32} {O : e_O} {a0 a1 a2 a3 : Value} {st : List Value} {h : e_H} {i : Int32} : e_F (kL_law L xs) O 360 [a0, a1, a2, a3] (.int i :: .retAddr 0 :: st) h = if e_inb i L = true then e_F (kL_law L xs) O 361 [a0, a1, a2, a3] (.int (xs i.toNatClampNeg) :: st) h else none := f_sld rfl
theorem zL_law_361 {L : Nat} {xs : Nat → Int32} {O : e_O} {a1 a2 a3 : Value} {st : List Value} {h : e_H} {x : Nat} : e_F (kL_law L xs) O 361 [.retAddr x, a1, a2, a3] (st) h = e_F (kL_law L xs) O 362 [.retAddr x, a1, a2, a3] (.retAddr x :: st) h := e_F_op rfl rfl
theorem zL_law_362 {L : Nat} {xs : Nat → Int32} {O : e_O} {a0 a1 a2 : Value} {st : List Value} {h : e_H} {x : Int32} : e_F (kL_law L xs) O 362 [a0, a1, a2, .int x] (st) h = e_F (kL_law L xs) O 363 [a0, a1, a2, .int x] (.int x :: st) h := e_F_op rfl rfl
theorem zL_law_363 {L : Nat} {xs : Nat → Int32} {O : e_O} {a0 a1 a2 a3 : Value} {st : List Value} {h : e_H}  : e_F (kL_law L xs) O 363 [a0, a1, a2, a3] (st) h = e_F (kL_law L xs) O 364 [a0, a1, a2, a3] (.int 2 :: st) h := e_F_op rfl rfl
theorem zL_law_364 {L : Nat} {xs : Nat → Int32} {O : e_O} {a0 a1 a2 a3 : Value} {st : List Value} {h : e_H} {y : Int32} {x : Int32} : e_F (kL_law L xs) O 364 [a0, a1, a2, a3] (.int y :: .int x :: st) h = e_F (kL_law L xs) O 365 [a0, a1, a2, a3] (.int (x + y) :: st) h := e_F_op rfl rfl
theorem zL_law_365 {L : Nat} {xs : Nat → Int32} {O : e_O} {a0 a1 a2 a3 : Value} {st : List Value} {h : e_H} {i : Int32} : e_F (kL_law L xs) O 365 [a0, a1, a2, a3] (.int i :: .retAddr 0 :: st) h = if e_inb i L = true then e_F (kL_law L xs) O 366 [a0, a1, a2, a3] (.int (xs i.toNatClampNeg) :: st) h else none := f_sld rfl
theorem zL_law_366 {L : Nat} {xs : Nat → Int32} {O : e_O} {a0 a1 a2 a3 : Value} {st : List Value} {h : e_H} {v0 : Int32} {v1 : Int32} : e_F (kL_law L xs) O 366 [a0, a1, a2, a3] (.int v1 :: .int v0 :: .ref 40 :: st) h = if e_cats st ≤ 8 then (O 98 [.ref 40, .int v0, .int v1] h).bind (fun q => e_F (kL_law L xs) O 369 [a0, a1, a2, a3] (q.1.toList ++ st) q.2) else none := f_cV rfl rfl rfl rfl
theorem zL_law_369 {L : Nat} {xs : Nat → Int32} {O : e_O} {a0 a1 a2 a3 : Value} {st : List Value} {h : e_H} {y : Int32} {x : Int32} : e_F (kL_law L xs) O 369 [a0, a1, a2, a3] (.int y :: .int x :: st) h = if x = y then e_F (kL_law L xs) O 1009 [a0, a1, a2, a3] (st) h else e_F (kL_law L xs) O 372 [a0, a1, a2, a3] (st) h := f_ic (P := fun x y => x = y) rfl
theorem zL_law_372 {L : Nat} {xs : Nat → Int32} {O : e_O} {a0 a1 a2 a3 : Value} {st : List Value} {h : e_H}  : e_F (kL_law L xs) O 372 [a0, a1, a2, a3] (st) h = e_F (kL_law L xs) O 373 [a0, a1, a2, a3] (.int 0 :: st) h := e_F_op rfl rfl
theorem zL_law_373 {L : Nat} {xs : Nat → Int32} {O : e_O} {a0 a1 a2 a3 : Value}  {h : e_H} {x : Int32} : e_F (kL_law L xs) O 373 [a0, a1, a2, a3] ([.int x]) h = if x = 0 ∨ x = 1 then some (some (.int x), h) else none := f_retZ rfl
theorem zL_law_374 {L : Nat} {xs : Nat → Int32} {O : e_O} {a0 a2 a3 : Value} {st : List Value} {h : e_H} {x : Nat} : e_F (kL_law L xs) O 374 [a0, .ref x, a2, a3] (st) h = e_F (kL_law L xs) O 375 [a0, .ref x, a2, a3] (.ref x :: st) h := e_F_op rfl rfl
theorem zL_law_375 {L : Nat} {xs : Nat → Int32} {O : e_O} {a1 a2 a3 : Value} {st : List Value} {h : e_H} {x : Nat} : e_F (kL_law L xs) O 375 [.retAddr x, a1, a2, a3] (st) h = e_F (kL_law L xs) O 376 [.retAddr x, a1, a2, a3] (.retAddr x :: st) h := e_F_op rfl rfl
theorem zL_law_376 {L : Nat} {xs : Nat → Int32} {O : e_O} {a0 a1 a2 : Value} {st : List Value} {h : e_H} {x : Int32} : e_F (kL_law L xs) O 376 [a0, a1, a2, .int x] (st) h = e_F (kL_law L xs) O 377 [a0, a1, a2, .int x] (.int x :: st) h := e_F_op rfl rfl
theorem zL_law_377 {L : Nat} {xs : Nat → Int32} {O : e_O} {a0 a1 a2 a3 : Value} {st : List Value} {h : e_H}  : e_F (kL_law L xs) O 377 [a0, a1, a2, a3] (st) h = e_F (kL_law L xs) O 378 [a0, a1, a2, a3] (.int 1 :: st) h := e_F_op rfl rfl
theorem zL_law_378 {L : Nat} {xs : Nat → Int32} {O : e_O} {a0 a1 a2 a3 : Value} {st : List Value} {h : e_H} {y : Int32} {x : Int32} : e_F (kL_law L xs) O 378 [a0, a1, a2, a3] (.int y :: .int x :: st) h = e_F (kL_law L xs) O 379 [a0, a1, a2, a3] (.int (x + y) :: st) h := e_F_op rfl rfl
theorem zL_law_379 {L : Nat} {xs : Nat → Int32} {O : e_O} {a0 a1 a2 a3 : Value} {st : List Value} {h : e_H} {i : Int32} : e_F (kL_law L xs) O 379 [a0, a1, a2, a3] (.int i :: .retAddr 0 :: st) h = if e_inb i L = true then e_F (kL_law L xs) O 380 [a0, a1, a2, a3] (.int (xs i.toNatClampNeg) :: st) h else none := f_sld rfl
theorem zL_law_380 {L : Nat} {xs : Nat → Int32} {O : e_O} {a1 a2 a3 : Value} {st : List Value} {h : e_H} {x : Nat} : e_F (kL_law L xs) O 380 [.retAddr x, a1, a2, a3] (st) h = e_F (kL_law L xs) O 381 [.retAddr x, a1, a2, a3] (.retAddr x :: st) h := e_F_op rfl rfl
theorem zL_law_381 {L : Nat} {xs : Nat → Int32} {O : e_O} {a0 a1 a2 : Value} {st : List Value} {h : e_H} {x : Int32} : e_F (kL_law L xs) O 381 [a0, a1, a2, .int x] (st) h = e_F (kL_law L xs) O 382 [a0, a1, a2, .int x] (.int x :: st) h := e_F_op rfl rfl
theorem zL_law_382 {L : Nat} {xs : Nat → Int32} {O : e_O} {a0 a1 a2 a3 : Value} {st : List Value} {h : e_H}  : e_F (kL_law L xs) O 382 [a0, a1, a2, a3] (st) h = e_F (kL_law L xs) O 383 [a0, a1, a2, a3] (.int 2 :: st) h := e_F_op rfl rfl
theorem zL_law_383 {L : Nat} {xs : Nat → Int32} {O : e_O} {a0 a1 a2 a3 : Value} {st : List Value} {h : e_H} {y : Int32} {x : Int32} : e_F (kL_law L xs) O 383 [a0, a1, a2, a3] (.int y :: .int x :: st) h = e_F (kL_law L xs) O 384 [a0, a1, a2, a3] (.int (x + y) :: st) h := e_F_op rfl rfl
theorem zL_law_384 {L : Nat} {xs : Nat → Int32} {O : e_O} {a0 a1 a2 a3 : Value} {st : List Value} {h : e_H} {i : Int32} : e_F (kL_law L xs) O 384 [a0, a1, a2, a3] (.int i :: .retAddr 0 :: st) h = if e_inb i L = true then e_F (kL_law L xs) O 385 [a0, a1, a2, a3] (.int (xs i.toNatClampNeg) :: st) h else none := f_sld rfl
theorem zL_law_385 {L : Nat} {xs : Nat → Int32} {O : e_O} {a0 a1 a2 a3 : Value} {st : List Value} {h : e_H} {v0 : Int32} {v1 : Int32} : e_F (kL_law L xs) O 385 [a0, a1, a2, a3] (.int v1 :: .int v0 :: .ref 0 :: st) h = if e_cats st ≤ 8 then (O 37 [.ref 0, .int v0, .int v1] h).bind (fun q => e_F (kL_law L xs) O 388 [a0, a1, a2, a3] (q.1.toList ++ st) q.2) else none := f_cV rfl rfl rfl rfl
theorem zL_law_388 {L : Nat} {xs : Nat → Int32} {O : e_O} {a0 a1 a3 : Value} {st : List Value} {h : e_H} {x : Nat} : e_F (kL_law L xs) O 388 [a0, a1, .ref x, a3] (st) h = e_F (kL_law L xs) O 389 [a0, a1, .ref x, a3] (.ref x :: st) h := e_F_op rfl rfl
theorem zL_law_389 {L : Nat} {xs : Nat → Int32} {O : e_O} {a1 a2 a3 : Value} {st : List Value} {h : e_H} {x : Nat} : e_F (kL_law L xs) O 389 [.retAddr x, a1, a2, a3] (st) h = e_F (kL_law L xs) O 390 [.retAddr x, a1, a2, a3] (.retAddr x :: st) h := e_F_op rfl rfl
theorem zL_law_390 {L : Nat} {xs : Nat → Int32} {O : e_O} {a0 a1 a2 : Value} {st : List Value} {h : e_H} {x : Int32} : e_F (kL_law L xs) O 390 [a0, a1, a2, .int x] (st) h = e_F (kL_law L xs) O 391 [a0, a1, a2, .int x] (.int x :: st) h := e_F_op rfl rfl
theorem zL_law_391 {L : Nat} {xs : Nat → Int32} {O : e_O} {a0 a1 a2 a3 : Value} {st : List Value} {h : e_H}  : e_F (kL_law L xs) O 391 [a0, a1, a2, a3] (st) h = e_F (kL_law L xs) O 392 [a0, a1, a2, a3] (.int 1 :: st) h := e_F_op rfl rfl
theorem zL_law_392 {L : Nat} {xs : Nat → Int32} {O : e_O} {a0 a1 a2 a3 : Value} {st : List Value} {h : e_H} {y : Int32} {x : Int32} : e_F (kL_law L xs) O 392 [a0, a1, a2, a3] (.int y :: .int x :: st) h = e_F (kL_law L xs) O 393 [a0, a1, a2, a3] (.int (x + y) :: st) h := e_F_op rfl rfl
theorem zL_law_393 {L : Nat} {xs : Nat → Int32} {O : e_O} {a0 a1 a2 a3 : Value} {st : List Value} {h : e_H} {i : Int32} : e_F (kL_law L xs) O 393 [a0, a1, a2, a3] (.int i :: .retAddr 0 :: st) h = if e_inb i L = true then e_F (kL_law L xs) O 394 [a0, a1, a2, a3] (.int (xs i.toNatClampNeg) :: st) h else none := f_sld rfl
theorem zL_law_394 {L : Nat} {xs : Nat → Int32} {O : e_O} {a1 a2 a3 : Value} {st : List Value} {h : e_H} {x : Nat} : e_F (kL_law L xs) O 394 [.retAddr x, a1, a2, a3] (st) h = e_F (kL_law L xs) O 395 [.retAddr x, a1, a2, a3] (.retAddr x :: st) h := e_F_op rfl rfl
theorem zL_law_395 {L : Nat} {xs : Nat → Int32} {O : e_O} {a0 a1 a2 : Value} {st : List Value} {h : e_H} {x : Int32} : e_F (kL_law L xs) O 395 [a0, a1, a2, .int x] (st) h = e_F (kL_law L xs) O 396 [a0, a1, a2, .int x] (.int x :: st) h := e_F_op rfl rfl
theorem zL_law_396 {L : Nat} {xs : Nat → Int32} {O : e_O} {a0 a1 a2 a3 : Value} {st : List Value} {h : e_H}  : e_F (kL_law L xs) O 396 [a0, a1, a2, a3] (st) h = e_F (kL_law L xs) O 397 [a0, a1, a2, a3] (.int 2 :: st) h := e_F_op rfl rfl
theorem zL_law_397 {L : Nat} {xs : Nat → Int32} {O : e_O} {a0 a1 a2 a3 : Value} {st : List Value} {h : e_H} {y : Int32} {x : Int32} : e_F (kL_law L xs) O 397 [a0, a1, a2, a3] (.int y :: .int x :: st) h = e_F (kL_law L xs) O 398 [a0, a1, a2, a3] (.int (x + y) :: st) h := e_F_op rfl rfl
theorem zL_law_398 {L : Nat} {xs : Nat → Int32} {O : e_O} {a0 a1 a2 a3 : Value} {st : List Value} {h : e_H} {i : Int32} : e_F (kL_law L xs) O 398 [a0, a1, a2, a3] (.int i :: .retAddr 0 :: st) h = if e_inb i L = true then e_F (kL_law L xs) O 399 [a0, a1, a2, a3] (.int (xs i.toNatClampNeg) :: st) h else none := f_sld rfl
theorem zL_law_399 {L : Nat} {xs : Nat → Int32} {O : e_O} {a0 a1 a2 a3 : Value} {st : List Value} {h : e_H} {v0 : Int32} {v1 : Int32} : e_F (kL_law L xs) O 399 [a0, a1, a2, a3] (.int v1 :: .int v0 :: .ref 40 :: st) h = if e_cats st ≤ 8 then (O 99 [.ref 40, .int v0, .int v1] h).bind (fun q => e_F (kL_law L xs) O 402 [a0, a1, a2, a3] (q.1.toList ++ st) q.2) else none := f_cV rfl rfl rfl rfl
theorem zL_law_402 {L : Nat} {xs : Nat → Int32} {O : e_O} {a0 a1 a2 a3 : Value} {st : List Value} {h : e_H} {y : Int32} {x : Int32} : e_F (kL_law L xs) O 402 [a0, a1, a2, a3] (.int y :: .int x :: st) h = if x = y then e_F (kL_law L xs) O 1009 [a0, a1, a2, a3] (st) h else e_F (kL_law L xs) O 405 [a0, a1, a2, a3] (st) h := f_ic (P := fun x y => x = y) rfl
theorem zL_law_405 {L : Nat} {xs : Nat → Int32} {O : e_O} {a0 a1 a2 a3 : Value} {st : List Value} {h : e_H}  : e_F (kL_law L xs) O 405 [a0, a1, a2, a3] (st) h = e_F (kL_law L xs) O 406 [a0, a1, a2, a3] (.int 0 :: st) h := e_F_op rfl rfl
theorem zL_law_406 {L : Nat} {xs : Nat → Int32} {O : e_O} {a0 a1 a2 a3 : Value}  {h : e_H} {x : Int32} : e_F (kL_law L xs) O 406 [a0, a1, a2, a3] ([.int x]) h = if x = 0 ∨ x = 1 then some (some (.int x), h) else none := f_retZ rfl
theorem zL_law_407 {L : Nat} {xs : Nat → Int32} {O : e_O} {a0 a2 a3 : Value} {st : List Value} {h : e_H} {x : Nat} : e_F (kL_law L xs) O 407 [a0, .ref x, a2, a3] (st) h = e_F (kL_law L xs) O 408 [a0, .ref x, a2, a3] (.ref x :: st) h := e_F_op rfl rfl
theorem zL_law_408 {L : Nat} {xs : Nat → Int32} {O : e_O} {a1 a2 a3 : Value} {st : List Value} {h : e_H} {x : Nat} : e_F (kL_law L xs) O 408 [.retAddr x, a1, a2, a3] (st) h = e_F (kL_law L xs) O 409 [.retAddr x, a1, a2, a3] (.retAddr x :: st) h := e_F_op rfl rfl
theorem zL_law_409 {L : Nat} {xs : Nat → Int32} {O : e_O} {a0 a1 a2 : Value} {st : List Value} {h : e_H} {x : Int32} : e_F (kL_law L xs) O 409 [a0, a1, a2, .int x] (st) h = e_F (kL_law L xs) O 410 [a0, a1, a2, .int x] (.int x :: st) h := e_F_op rfl rfl
theorem zL_law_410 {L : Nat} {xs : Nat → Int32} {O : e_O} {a0 a1 a2 a3 : Value} {st : List Value} {h : e_H}  : e_F (kL_law L xs) O 410 [a0, a1, a2, a3] (st) h = e_F (kL_law L xs) O 411 [a0, a1, a2, a3] (.int 1 :: st) h := e_F_op rfl rfl
theorem zL_law_411 {L : Nat} {xs : Nat → Int32} {O : e_O} {a0 a1 a2 a3 : Value} {st : List Value} {h : e_H} {y : Int32} {x : Int32} : e_F (kL_law L xs) O 411 [a0, a1, a2, a3] (.int y :: .int x :: st) h = e_F (kL_law L xs) O 412 [a0, a1, a2, a3] (.int (x + y) :: st) h := e_F_op rfl rfl
theorem zL_law_412 {L : Nat} {xs : Nat → Int32} {O : e_O} {a0 a1 a2 a3 : Value} {st : List Value} {h : e_H} {i : Int32} : e_F (kL_law L xs) O 412 [a0, a1, a2, a3] (.int i :: .retAddr 0 :: st) h = if e_inb i L = true then e_F (kL_law L xs) O 413 [a0, a1, a2, a3] (.int (xs i.toNatClampNeg) :: st) h else none := f_sld rfl
theorem zL_law_413 {L : Nat} {xs : Nat → Int32} {O : e_O} {a0 a1 a2 a3 : Value} {st : List Value} {h : e_H} {v0 : Int32} : e_F (kL_law L xs) O 413 [a0, a1, a2, a3] (.int v0 :: .ref 0 :: st) h = if e_cats st ≤ 8 then (O 38 [.ref 0, .int v0] h).bind (fun q => e_F (kL_law L xs) O 416 [a0, a1, a2, a3] (q.1.toList ++ st) q.2) else none := f_cV rfl rfl rfl rfl
theorem zL_law_416 {L : Nat} {xs : Nat → Int32} {O : e_O} {a0 a1 a3 : Value} {st : List Value} {h : e_H} {x : Nat} : e_F (kL_law L xs) O 416 [a0, a1, .ref x, a3] (st) h = e_F (kL_law L xs) O 417 [a0, a1, .ref x, a3] (.ref x :: st) h := e_F_op rfl rfl
theorem zL_law_417 {L : Nat} {xs : Nat → Int32} {O : e_O} {a1 a2 a3 : Value} {st : List Value} {h : e_H} {x : Nat} : e_F (kL_law L xs) O 417 [.retAddr x, a1, a2, a3] (st) h = e_F (kL_law L xs) O 418 [.retAddr x, a1, a2, a3] (.retAddr x :: st) h := e_F_op rfl rfl
theorem zL_law_418 {L : Nat} {xs : Nat → Int32} {O : e_O} {a0 a1 a2 : Value} {st : List Value} {h : e_H} {x : Int32} : e_F (kL_law L xs) O 418 [a0, a1, a2, .int x] (st) h = e_F (kL_law L xs) O 419 [a0, a1, a2, .int x] (.int x :: st) h := e_F_op rfl rfl
theorem zL_law_419 {L : Nat} {xs : Nat → Int32} {O : e_O} {a0 a1 a2 a3 : Value} {st : List Value} {h : e_H}  : e_F (kL_law L xs) O 419 [a0, a1, a2, a3] (st) h = e_F (kL_law L xs) O 420 [a0, a1, a2, a3] (.int 1 :: st) h := e_F_op rfl rfl
theorem zL_law_420 {L : Nat} {xs : Nat → Int32} {O : e_O} {a0 a1 a2 a3 : Value} {st : List Value} {h : e_H} {y : Int32} {x : Int32} : e_F (kL_law L xs) O 420 [a0, a1, a2, a3] (.int y :: .int x :: st) h = e_F (kL_law L xs) O 421 [a0, a1, a2, a3] (.int (x + y) :: st) h := e_F_op rfl rfl
theorem zL_law_421 {L : Nat} {xs : Nat → Int32} {O : e_O} {a0 a1 a2 a3 : Value} {st : List Value} {h : e_H} {i : Int32} : e_F (kL_law L xs) O 421 [a0, a1, a2, a3] (.int i :: .retAddr 0 :: st) h = if e_inb i L = true then e_F (kL_law L xs) O 422 [a0, a1, a2, a3] (.int (xs i.toNatClampNeg) :: st) h else none := f_sld rfl
theorem zL_law_422 {L : Nat} {xs : Nat → Int32} {O : e_O} {a0 a1 a2 a3 : Value} {st : List Value} {h : e_H} {v0 : Int32} : e_F (kL_law L xs) O 422 [a0, a1, a2, a3] (.int v0 :: .ref 40 :: st) h = if e_cats st ≤ 8 then (O 100 [.ref 40, .int v0] h).bind (fun q => e_F (kL_law L xs) O 425 [a0, a1, a2, a3] (q.1.toList ++ st) q.2) else none := f_cV rfl rfl rfl rfl
theorem zL_law_425 {L : Nat} {xs : Nat → Int32} {O : e_O} {a0 a1 a2 a3 : Value} {st : List Value} {h : e_H} {y : Int32} {x : Int32} : e_F (kL_law L xs) O 425 [a0, a1, a2, a3] (.int y :: .int x :: st) h = if x = y then e_F (kL_law L xs) O 1009 [a0, a1, a2, a3] (st) h else e_F (kL_law L xs) O 428 [a0, a1, a2, a3] (st) h := f_ic (P := fun x y => x = y) rfl
theorem zL_law_428 {L : Nat} {xs : Nat → Int32} {O : e_O} {a0 a1 a2 a3 : Value} {st : List Value} {h : e_H}  : e_F (kL_law L xs) O 428 [a0, a1, a2, a3] (st) h = e_F (kL_law L xs) O 429 [a0, a1, a2, a3] (.int 0 :: st) h := e_F_op rfl rfl
theorem zL_law_429 {L : Nat} {xs : Nat → Int32} {O : e_O} {a0 a1 a2 a3 : Value}  {h : e_H} {x : Int32} : e_F (kL_law L xs) O 429 [a0, a1, a2, a3] ([.int x]) h = if x = 0 ∨ x = 1 then some (some (.int x), h) else none := f_retZ rfl
theorem zL_law_430 {L : Nat} {xs : Nat → Int32} {O : e_O} {a0 a2 a3 : Value} {st : List Value} {h : e_H} {x : Nat} : e_F (kL_law L xs) O 430 [a0, .ref x, a2, a3] (st) h = e_F (kL_law L xs) O 431 [a0, .ref x, a2, a3] (.ref x :: st) h := e_F_op rfl rfl
theorem zL_law_431 {L : Nat} {xs : Nat → Int32} {O : e_O} {a0 a1 a2 a3 : Value} {st : List Value} {h : e_H}  : e_F (kL_law L xs) O 431 [a0, a1, a2, a3] (.ref 0 :: st) h = if e_cats st ≤ 8 then (O 39 [.ref 0] h).bind (fun q => e_F (kL_law L xs) O 434 [a0, a1, a2, a3] (q.1.toList ++ st) q.2) else none := f_cV rfl rfl rfl rfl
theorem zL_law_434 {L : Nat} {xs : Nat → Int32} {O : e_O} {a0 a1 a3 : Value} {st : List Value} {h : e_H} {x : Nat} : e_F (kL_law L xs) O 434 [a0, a1, .ref x, a3] (st) h = e_F (kL_law L xs) O 435 [a0, a1, .ref x, a3] (.ref x :: st) h := e_F_op rfl rfl
theorem zL_law_435 {L : Nat} {xs : Nat → Int32} {O : e_O} {a0 a1 a2 a3 : Value} {st : List Value} {h : e_H}  : e_F (kL_law L xs) O 435 [a0, a1, a2, a3] (.ref 40 :: st) h = if e_cats st ≤ 8 then (O 101 [.ref 40] h).bind (fun q => e_F (kL_law L xs) O 438 [a0, a1, a2, a3] (q.1.toList ++ st) q.2) else none := f_cV rfl rfl rfl rfl
theorem zL_law_438 {L : Nat} {xs : Nat → Int32} {O : e_O} {a0 a1 a2 a3 : Value} {st : List Value} {h : e_H} {y : Int32} {x : Int32} : e_F (kL_law L xs) O 438 [a0, a1, a2, a3] (.int y :: .int x :: st) h = if x = y then e_F (kL_law L xs) O 1009 [a0, a1, a2, a3] (st) h else e_F (kL_law L xs) O 441 [a0, a1, a2, a3] (st) h := f_ic (P := fun x y => x = y) rfl
theorem zL_law_441 {L : Nat} {xs : Nat → Int32} {O : e_O} {a0 a1 a2 a3 : Value} {st : List Value} {h : e_H}  : e_F (kL_law L xs) O 441 [a0, a1, a2, a3] (st) h = e_F (kL_law L xs) O 442 [a0, a1, a2, a3] (.int 0 :: st) h := e_F_op rfl rfl
theorem zL_law_442 {L : Nat} {xs : Nat → Int32} {O : e_O} {a0 a1 a2 a3 : Value}  {h : e_H} {x : Int32} : e_F (kL_law L xs) O 442 [a0, a1, a2, a3] ([.int x]) h = if x = 0 ∨ x = 1 then some (some (.int x), h) else none := f_retZ rfl
theorem zL_law_443 {L : Nat} {xs : Nat → Int32} {O : e_O} {a0 a2 a3 : Value} {st : List Value} {h : e_H} {x : Nat} : e_F (kL_law L xs) O 443 [a0, .ref x, a2, a3] (st) h = e_F (kL_law L xs) O 444 [a0, .ref x, a2, a3] (.ref x :: st) h := e_F_op rfl rfl
theorem zL_law_444 {L : Nat} {xs : Nat → Int32} {O : e_O} {a0 a1 a2 a3 : Value} {st : List Value} {h : e_H}  : e_F (kL_law L xs) O 444 [a0, a1, a2, a3] (.ref 0 :: st) h = if e_cats st ≤ 8 then (O 40 [.ref 0] h).bind (fun q => e_F (kL_law L xs) O 447 [a0, a1, a2, a3] (q.1.toList ++ st) q.2) else none := f_cV rfl rfl rfl rfl
theorem zL_law_447 {L : Nat} {xs : Nat → Int32} {O : e_O} {a0 a1 a3 : Value} {st : List Value} {h : e_H} {x : Nat} : e_F (kL_law L xs) O 447 [a0, a1, .ref x, a3] (st) h = e_F (kL_law L xs) O 448 [a0, a1, .ref x, a3] (.ref x :: st) h := e_F_op rfl rfl
theorem zL_law_448 {L : Nat} {xs : Nat → Int32} {O : e_O} {a0 a1 a2 a3 : Value} {st : List Value} {h : e_H}  : e_F (kL_law L xs) O 448 [a0, a1, a2, a3] (.ref 40 :: st) h = if e_cats st ≤ 8 then (O 110 [.ref 40] h).bind (fun q => e_F (kL_law L xs) O 451 [a0, a1, a2, a3] (q.1.toList ++ st) q.2) else none := f_cV rfl rfl rfl rfl
theorem zL_law_451 {L : Nat} {xs : Nat → Int32} {O : e_O} {a0 a1 a2 a3 : Value} {st : List Value} {h : e_H} {y : Int32} {x : Int32} : e_F (kL_law L xs) O 451 [a0, a1, a2, a3] (.int y :: .int x :: st) h = if x = y then e_F (kL_law L xs) O 1009 [a0, a1, a2, a3] (st) h else e_F (kL_law L xs) O 454 [a0, a1, a2, a3] (st) h := f_ic (P := fun x y => x = y) rfl
theorem zL_law_454 {L : Nat} {xs : Nat → Int32} {O : e_O} {a0 a1 a2 a3 : Value} {st : List Value} {h : e_H}  : e_F (kL_law L xs) O 454 [a0, a1, a2, a3] (st) h = e_F (kL_law L xs) O 455 [a0, a1, a2, a3] (.int 0 :: st) h := e_F_op rfl rfl
theorem zL_law_455 {L : Nat} {xs : Nat → Int32} {O : e_O} {a0 a1 a2 a3 : Value}  {h : e_H} {x : Int32} : e_F (kL_law L xs) O 455 [a0, a1, a2, a3] ([.int x]) h = if x = 0 ∨ x = 1 then some (some (.int x), h) else none := f_retZ rfl
theorem zL_law_456 {L : Nat} {xs : Nat → Int32} {O : e_O} {a0 a2 a3 : Value} {st : List Value} {h : e_H} {x : Nat} : e_F (kL_law L xs) O 456 [a0, .ref x, a2, a3] (st) h = e_F (kL_law L xs) O 457 [a0, .ref x, a2, a3] (.ref x :: st) h := e_F_op rfl rfl
theorem zL_law_457 {L : Nat} {xs : Nat → Int32} {O : e_O} {a1 a2 a3 : Value} {st : List Value} {h : e_H} {x : Nat} : e_F (kL_law L xs) O 457 [.retAddr x, a1, a2, a3] (st) h = e_F (kL_law L xs) O 458 [.retAddr x, a1, a2, a3] (.retAddr x :: st) h := e_F_op rfl rfl
theorem zL_law_458 {L : Nat} {xs : Nat → Int32} {O : e_O} {a0 a1 a2 : Value} {st : List Value} {h : e_H} {x : Int32} : e_F (kL_law L xs) O 458 [a0, a1, a2, .int x] (st) h = e_F (kL_law L xs) O 459 [a0, a1, a2, .int x] (.int x :: st) h := e_F_op rfl rfl
theorem zL_law_459 {L : Nat} {xs : Nat → Int32} {O : e_O} {a0 a1 a2 a3 : Value} {st : List Value} {h : e_H}  : e_F (kL_law L xs) O 459 [a0, a1, a2, a3] (st) h = e_F (kL_law L xs) O 460 [a0, a1, a2, a3] (.int 1 :: st) h := e_F_op rfl rfl
theorem zL_law_460 {L : Nat} {xs : Nat → Int32} {O : e_O} {a0 a1 a2 a3 : Value} {st : List Value} {h : e_H} {y : Int32} {x : Int32} : e_F (kL_law L xs) O 460 [a0, a1, a2, a3] (.int y :: .int x :: st) h = e_F (kL_law L xs) O 461 [a0, a1, a2, a3] (.int (x + y) :: st) h := e_F_op rfl rfl
theorem zL_law_461 {L : Nat} {xs : Nat → Int32} {O : e_O} {a0 a1 a2 a3 : Value} {st : List Value} {h : e_H} {i : Int32} : e_F (kL_law L xs) O 461 [a0, a1, a2, a3] (.int i :: .retAddr 0 :: st) h = if e_inb i L = true then e_F (kL_law L xs) O 462 [a0, a1, a2, a3] (.int (xs i.toNatClampNeg) :: st) h else none := f_sld rfl
theorem zL_law_462 {L : Nat} {xs : Nat → Int32} {O : e_O} {a1 a2 a3 : Value} {st : List Value} {h : e_H} {x : Nat} : e_F (kL_law L xs) O 462 [.retAddr x, a1, a2, a3] (st) h = e_F (kL_law L xs) O 463 [.retAddr x, a1, a2, a3] (.retAddr x :: st) h := e_F_op rfl rfl
theorem zL_law_463 {L : Nat} {xs : Nat → Int32} {O : e_O} {a0 a1 a2 : Value} {st : List Value} {h : e_H} {x : Int32} : e_F (kL_law L xs) O 463 [a0, a1, a2, .int x] (st) h = e_F (kL_law L xs) O 464 [a0, a1, a2, .int x] (.int x :: st) h := e_F_op rfl rfl
theorem zL_law_464 {L : Nat} {xs : Nat → Int32} {O : e_O} {a0 a1 a2 a3 : Value} {st : List Value} {h : e_H}  : e_F (kL_law L xs) O 464 [a0, a1, a2, a3] (st) h = e_F (kL_law L xs) O 465 [a0, a1, a2, a3] (.int 2 :: st) h := e_F_op rfl rfl
theorem zL_law_465 {L : Nat} {xs : Nat → Int32} {O : e_O} {a0 a1 a2 a3 : Value} {st : List Value} {h : e_H} {y : Int32} {x : Int32} : e_F (kL_law L xs) O 465 [a0, a1, a2, a3] (.int y :: .int x :: st) h = e_F (kL_law L xs) O 466 [a0, a1, a2, a3] (.int (x + y) :: st) h := e_F_op rfl rfl
theorem zL_law_466 {L : Nat} {xs : Nat → Int32} {O : e_O} {a0 a1 a2 a3 : Value} {st : List Value} {h : e_H} {i : Int32} : e_F (kL_law L xs) O 466 [a0, a1, a2, a3] (.int i :: .retAddr 0 :: st) h = if e_inb i L = true then e_F (kL_law L xs) O 467 [a0, a1, a2, a3] (.int (xs i.toNatClampNeg) :: st) h else none := f_sld rfl
theorem zL_law_467 {L : Nat} {xs : Nat → Int32} {O : e_O} {a0 a1 a2 a3 : Value} {st : List Value} {h : e_H} {v0 : Int32} {v1 : Int32} : e_F (kL_law L xs) O 467 [a0, a1, a2, a3] (.int v1 :: .int v0 :: .ref 0 :: st) h = if e_cats st ≤ 8 then (O 41 [.ref 0, .int v0, .int v1] h).bind (fun q => e_F (kL_law L xs) O 470 [a0, a1, a2, a3] (q.1.toList ++ st) q.2) else none := f_cV rfl rfl rfl rfl
theorem zL_law_470 {L : Nat} {xs : Nat → Int32} {O : e_O} {a0 a1 a3 : Value} {st : List Value} {h : e_H} {x : Nat} : e_F (kL_law L xs) O 470 [a0, a1, .ref x, a3] (st) h = e_F (kL_law L xs) O 471 [a0, a1, .ref x, a3] (.ref x :: st) h := e_F_op rfl rfl
theorem zL_law_471 {L : Nat} {xs : Nat → Int32} {O : e_O} {a1 a2 a3 : Value} {st : List Value} {h : e_H} {x : Nat} : e_F (kL_law L xs) O 471 [.retAddr x, a1, a2, a3] (st) h = e_F (kL_law L xs) O 472 [.retAddr x, a1, a2, a3] (.retAddr x :: st) h := e_F_op rfl rfl
theorem zL_law_472 {L : Nat} {xs : Nat → Int32} {O : e_O} {a0 a1 a2 : Value} {st : List Value} {h : e_H} {x : Int32} : e_F (kL_law L xs) O 472 [a0, a1, a2, .int x] (st) h = e_F (kL_law L xs) O 473 [a0, a1, a2, .int x] (.int x :: st) h := e_F_op rfl rfl
theorem zL_law_473 {L : Nat} {xs : Nat → Int32} {O : e_O} {a0 a1 a2 a3 : Value} {st : List Value} {h : e_H}  : e_F (kL_law L xs) O 473 [a0, a1, a2, a3] (st) h = e_F (kL_law L xs) O 474 [a0, a1, a2, a3] (.int 1 :: st) h := e_F_op rfl rfl
theorem zL_law_474 {L : Nat} {xs : Nat → Int32} {O : e_O} {a0 a1 a2 a3 : Value} {st : List Value} {h : e_H} {y : Int32} {x : Int32} : e_F (kL_law L xs) O 474 [a0, a1, a2, a3] (.int y :: .int x :: st) h = e_F (kL_law L xs) O 475 [a0, a1, a2, a3] (.int (x + y) :: st) h := e_F_op rfl rfl
theorem zL_law_475 {L : Nat} {xs : Nat → Int32} {O : e_O} {a0 a1 a2 a3 : Value} {st : List Value} {h : e_H} {i : Int32} : e_F (kL_law L xs) O 475 [a0, a1, a2, a3] (.int i :: .retAddr 0 :: st) h = if e_inb i L = true then e_F (kL_law L xs) O 476 [a0, a1, a2, a3] (.int (xs i.toNatClampNeg) :: st) h else none := f_sld rfl
theorem zL_law_476 {L : Nat} {xs : Nat → Int32} {O : e_O} {a1 a2 a3 : Value} {st : List Value} {h : e_H} {x : Nat} : e_F (kL_law L xs) O 476 [.retAddr x, a1, a2, a3] (st) h = e_F (kL_law L xs) O 477 [.retAddr x, a1, a2, a3] (.retAddr x :: st) h := e_F_op rfl rfl
theorem zL_law_477 {L : Nat} {xs : Nat → Int32} {O : e_O} {a0 a1 a2 : Value} {st : List Value} {h : e_H} {x : Int32} : e_F (kL_law L xs) O 477 [a0, a1, a2, .int x] (st) h = e_F (kL_law L xs) O 478 [a0, a1, a2, .int x] (.int x :: st) h := e_F_op rfl rfl
theorem zL_law_478 {L : Nat} {xs : Nat → Int32} {O : e_O} {a0 a1 a2 a3 : Value} {st : List Value} {h : e_H}  : e_F (kL_law L xs) O 478 [a0, a1, a2, a3] (st) h = e_F (kL_law L xs) O 479 [a0, a1, a2, a3] (.int 2 :: st) h := e_F_op rfl rfl
theorem zL_law_479 {L : Nat} {xs : Nat → Int32} {O : e_O} {a0 a1 a2 a3 : Value} {st : List Value} {h : e_H} {y : Int32} {x : Int32} : e_F (kL_law L xs) O 479 [a0, a1, a2, a3] (.int y :: .int x :: st) h = e_F (kL_law L xs) O 480 [a0, a1, a2, a3] (.int (x + y) :: st) h := e_F_op rfl rfl
theorem zL_law_480 {L : Nat} {xs : Nat → Int32} {O : e_O} {a0 a1 a2 a3 : Value} {st : List Value} {h : e_H} {i : Int32} : e_F (kL_law L xs) O 480 [a0, a1, a2, a3] (.int i :: .retAddr 0 :: st) h = if e_inb i L = true then e_F (kL_law L xs) O 481 [a0, a1, a2, a3] (.int (xs i.toNatClampNeg) :: st) h else none := f_sld rfl
theorem zL_law_481 {L : Nat} {xs : Nat → Int32} {O : e_O} {a0 a1 a2 a3 : Value} {st : List Value} {h : e_H} {v0 : Int32} {v1 : Int32} : e_F (kL_law L xs) O 481 [a0, a1, a2, a3] (.int v1 :: .int v0 :: .ref 40 :: st) h = if e_cats st ≤ 8 then (O 121 [.ref 40, .int v0, .int v1] h).bind (fun q => e_F (kL_law L xs) O 484 [a0, a1, a2, a3] (q.1.toList ++ st) q.2) else none := f_cV rfl rfl rfl rfl
theorem zL_law_484 {L : Nat} {xs : Nat → Int32} {O : e_O} {a0 a1 a2 a3 : Value} {st : List Value} {h : e_H} {y : Int32} {x : Int32} : e_F (kL_law L xs) O 484 [a0, a1, a2, a3] (.int y :: .int x :: st) h = if x = y then e_F (kL_law L xs) O 1009 [a0, a1, a2, a3] (st) h else e_F (kL_law L xs) O 487 [a0, a1, a2, a3] (st) h := f_ic (P := fun x y => x = y) rfl
theorem zL_law_487 {L : Nat} {xs : Nat → Int32} {O : e_O} {a0 a1 a2 a3 : Value} {st : List Value} {h : e_H}  : e_F (kL_law L xs) O 487 [a0, a1, a2, a3] (st) h = e_F (kL_law L xs) O 488 [a0, a1, a2, a3] (.int 0 :: st) h := e_F_op rfl rfl
theorem zL_law_488 {L : Nat} {xs : Nat → Int32} {O : e_O} {a0 a1 a2 a3 : Value}  {h : e_H} {x : Int32} : e_F (kL_law L xs) O 488 [a0, a1, a2, a3] ([.int x]) h = if x = 0 ∨ x = 1 then some (some (.int x), h) else none := f_retZ rfl
theorem zL_law_489 {L : Nat} {xs : Nat → Int32} {O : e_O} {a0 a2 a3 : Value} {st : List Value} {h : e_H} {x : Nat} : e_F (kL_law L xs) O 489 [a0, .ref x, a2, a3] (st) h = e_F (kL_law L xs) O 490 [a0, .ref x, a2, a3] (.ref x :: st) h := e_F_op rfl rfl
theorem zL_law_490 {L : Nat} {xs : Nat → Int32} {O : e_O} {a1 a2 a3 : Value} {st : List Value} {h : e_H} {x : Nat} : e_F (kL_law L xs) O 490 [.retAddr x, a1, a2, a3] (st) h = e_F (kL_law L xs) O 491 [.retAddr x, a1, a2, a3] (.retAddr x :: st) h := e_F_op rfl rfl
theorem zL_law_491 {L : Nat} {xs : Nat → Int32} {O : e_O} {a0 a1 a2 : Value} {st : List Value} {h : e_H} {x : Int32} : e_F (kL_law L xs) O 491 [a0, a1, a2, .int x] (st) h = e_F (kL_law L xs) O 492 [a0, a1, a2, .int x] (.int x :: st) h := e_F_op rfl rfl
theorem zL_law_492 {L : Nat} {xs : Nat → Int32} {O : e_O} {a0 a1 a2 a3 : Value} {st : List Value} {h : e_H}  : e_F (kL_law L xs) O 492 [a0, a1, a2, a3] (st) h = e_F (kL_law L xs) O 493 [a0, a1, a2, a3] (.int 1 :: st) h := e_F_op rfl rfl
theorem zL_law_493 {L : Nat} {xs : Nat → Int32} {O : e_O} {a0 a1 a2 a3 : Value} {st : List Value} {h : e_H} {y : Int32} {x : Int32} : e_F (kL_law L xs) O 493 [a0, a1, a2, a3] (.int y :: .int x :: st) h = e_F (kL_law L xs) O 494 [a0, a1, a2, a3] (.int (x + y) :: st) h := e_F_op rfl rfl
theorem zL_law_494 {L : Nat} {xs : Nat → Int32} {O : e_O} {a0 a1 a2 a3 : Value} {st : List Value} {h : e_H} {i : Int32} : e_F (kL_law L xs) O 494 [a0, a1, a2, a3] (.int i :: .retAddr 0 :: st) h = if e_inb i L = true then e_F (kL_law L xs) O 495 [a0, a1, a2, a3] (.int (xs i.toNatClampNeg) :: st) h else none := f_sld rfl
theorem zL_law_495 {L : Nat} {xs : Nat → Int32} {O : e_O} {a1 a2 a3 : Value} {st : List Value} {h : e_H} {x : Nat} : e_F (kL_law L xs) O 495 [.retAddr x, a1, a2, a3] (st) h = e_F (kL_law L xs) O 496 [.retAddr x, a1, a2, a3] (.retAddr x :: st) h := e_F_op rfl rfl
theorem zL_law_496 {L : Nat} {xs : Nat → Int32} {O : e_O} {a0 a1 a2 : Value} {st : List Value} {h : e_H} {x : Int32} : e_F (kL_law L xs) O 496 [a0, a1, a2, .int x] (st) h = e_F (kL_law L xs) O 497 [a0, a1, a2, .int x] (.int x :: st) h := e_F_op rfl rfl
theorem zL_law_497 {L : Nat} {xs : Nat → Int32} {O : e_O} {a0 a1 a2 a3 : Value} {st : List Value} {h : e_H}  : e_F (kL_law L xs) O 497 [a0, a1, a2, a3] (st) h = e_F (kL_law L xs) O 498 [a0, a1, a2, a3] (.int 2 :: st) h := e_F_op rfl rfl
theorem zL_law_498 {L : Nat} {xs : Nat → Int32} {O : e_O} {a0 a1 a2 a3 : Value} {st : List Value} {h : e_H} {y : Int32} {x : Int32} : e_F (kL_law L xs) O 498 [a0, a1, a2, a3] (.int y :: .int x :: st) h = e_F (kL_law L xs) O 499 [a0, a1, a2, a3] (.int (x + y) :: st) h := e_F_op rfl rfl
theorem zL_law_499 {L : Nat} {xs : Nat → Int32} {O : e_O} {a0 a1 a2 a3 : Value} {st : List Value} {h : e_H} {i : Int32} : e_F (kL_law L xs) O 499 [a0, a1, a2, a3] (.int i :: .retAddr 0 :: st) h = if e_inb i L = true then e_F (kL_law L xs) O 500 [a0, a1, a2, a3] (.int (xs i.toNatClampNeg) :: st) h else none := f_sld rfl
theorem zL_law_500 {L : Nat} {xs : Nat → Int32} {O : e_O} {a0 a1 a2 a3 : Value} {st : List Value} {h : e_H} {v0 : Int32} {v1 : Int32} : e_F (kL_law L xs) O 500 [a0, a1, a2, a3] (.int v1 :: .int v0 :: .ref 0 :: st) h = if e_cats st ≤ 8 then (O 42 [.ref 0, .int v0, .int v1] h).bind (fun q => e_F (kL_law L xs) O 503 [a0, a1, a2, a3] (q.1.toList ++ st) q.2) else none := f_cV rfl rfl rfl rfl
theorem zL_law_503 {L : Nat} {xs : Nat → Int32} {O : e_O} {a0 a1 a3 : Value} {st : List Value} {h : e_H} {x : Nat} : e_F (kL_law L xs) O 503 [a0, a1, .ref x, a3] (st) h = e_F (kL_law L xs) O 504 [a0, a1, .ref x, a3] (.ref x :: st) h := e_F_op rfl rfl
theorem zL_law_504 {L : Nat} {xs : Nat → Int32} {O : e_O} {a1 a2 a3 : Value} {st : List Value} {h : e_H} {x : Nat} : e_F (kL_law L xs) O 504 [.retAddr x, a1, a2, a3] (st) h = e_F (kL_law L xs) O 505 [.retAddr x, a1, a2, a3] (.retAddr x :: st) h := e_F_op rfl rfl
theorem zL_law_505 {L : Nat} {xs : Nat → Int32} {O : e_O} {a0 a1 a2 : Value} {st : List Value} {h : e_H} {x : Int32} : e_F (kL_law L xs) O 505 [a0, a1, a2, .int x] (st) h = e_F (kL_law L xs) O 506 [a0, a1, a2, .int x] (.int x :: st) h := e_F_op rfl rfl
theorem zL_law_506 {L : Nat} {xs : Nat → Int32} {O : e_O} {a0 a1 a2 a3 : Value} {st : List Value} {h : e_H}  : e_F (kL_law L xs) O 506 [a0, a1, a2, a3] (st) h = e_F (kL_law L xs) O 507 [a0, a1, a2, a3] (.int 1 :: st) h := e_F_op rfl rfl
theorem zL_law_507 {L : Nat} {xs : Nat → Int32} {O : e_O} {a0 a1 a2 a3 : Value} {st : List Value} {h : e_H} {y : Int32} {x : Int32} : e_F (kL_law L xs) O 507 [a0, a1, a2, a3] (.int y :: .int x :: st) h = e_F (kL_law L xs) O 508 [a0, a1, a2, a3] (.int (x + y) :: st) h := e_F_op rfl rfl
theorem zL_law_508 {L : Nat} {xs : Nat → Int32} {O : e_O} {a0 a1 a2 a3 : Value} {st : List Value} {h : e_H} {i : Int32} : e_F (kL_law L xs) O 508 [a0, a1, a2, a3] (.int i :: .retAddr 0 :: st) h = if e_inb i L = true then e_F (kL_law L xs) O 509 [a0, a1, a2, a3] (.int (xs i.toNatClampNeg) :: st) h else none := f_sld rfl
theorem zL_law_509 {L : Nat} {xs : Nat → Int32} {O : e_O} {a1 a2 a3 : Value} {st : List Value} {h : e_H} {x : Nat} : e_F (kL_law L xs) O 509 [.retAddr x, a1, a2, a3] (st) h = e_F (kL_law L xs) O 510 [.retAddr x, a1, a2, a3] (.retAddr x :: st) h := e_F_op rfl rfl
theorem zL_law_510 {L : Nat} {xs : Nat → Int32} {O : e_O} {a0 a1 a2 : Value} {st : List Value} {h : e_H} {x : Int32} : e_F (kL_law L xs) O 510 [a0, a1, a2, .int x] (st) h = e_F (kL_law L xs) O 511 [a0, a1, a2, .int x] (.int x :: st) h := e_F_op rfl rfl
theorem zL_law_511 {L : Nat} {xs : Nat → Int32} {O : e_O} {a0 a1 a2 a3 : Value} {st : List Value} {h : e_H}  : e_F (kL_law L xs) O 511 [a0, a1, a2, a3] (st) h = e_F (kL_law L xs) O 512 [a0, a1, a2, a3] (.int 2 :: st) h := e_F_op rfl rfl
theorem zL_law_512 {L : Nat} {xs : Nat → Int32} {O : e_O} {a0 a1 a2 a3 : Value} {st : List Value} {h : e_H} {y : Int32} {x : Int32} : e_F (kL_law L xs) O 512 [a0, a1, a2, a3] (.int y :: .int x :: st) h = e_F (kL_law L xs) O 513 [a0, a1, a2, a3] (.int (x + y) :: st) h := e_F_op rfl rfl
theorem zL_law_513 {L : Nat} {xs : Nat → Int32} {O : e_O} {a0 a1 a2 a3 : Value} {st : List Value} {h : e_H} {i : Int32} : e_F (kL_law L xs) O 513 [a0, a1, a2, a3] (.int i :: .retAddr 0 :: st) h = if e_inb i L = true then e_F (kL_law L xs) O 514 [a0, a1, a2, a3] (.int (xs i.toNatClampNeg) :: st) h else none := f_sld rfl
theorem zL_law_514 {L : Nat} {xs : Nat → Int32} {O : e_O} {a0 a1 a2 a3 : Value} {st : List Value} {h : e_H} {v0 : Int32} {v1 : Int32} : e_F (kL_law L xs) O 514 [a0, a1, a2, a3] (.int v1 :: .int v0 :: .ref 40 :: st) h = if e_cats st ≤ 8 then (O 122 [.ref 40, .int v0, .int v1] h).bind (fun q => e_F (kL_law L xs) O 517 [a0, a1, a2, a3] (q.1.toList ++ st) q.2) else none := f_cV rfl rfl rfl rfl
theorem zL_law_517 {L : Nat} {xs : Nat → Int32} {O : e_O} {a0 a1 a2 a3 : Value} {st : List Value} {h : e_H} {y : Int32} {x : Int32} : e_F (kL_law L xs) O 517 [a0, a1, a2, a3] (.int y :: .int x :: st) h = if x = y then e_F (kL_law L xs) O 1009 [a0, a1, a2, a3] (st) h else e_F (kL_law L xs) O 520 [a0, a1, a2, a3] (st) h := f_ic (P := fun x y => x = y) rfl
theorem zL_law_520 {L : Nat} {xs : Nat → Int32} {O : e_O} {a0 a1 a2 a3 : Value} {st : List Value} {h : e_H}  : e_F (kL_law L xs) O 520 [a0, a1, a2, a3] (st) h = e_F (kL_law L xs) O 521 [a0, a1, a2, a3] (.int 0 :: st) h := e_F_op rfl rfl
theorem zL_law_521 {L : Nat} {xs : Nat → Int32} {O : e_O} {a0 a1 a2 a3 : Value}  {h : e_H} {x : Int32} : e_F (kL_law L xs) O 521 [a0, a1, a2, a3] ([.int x]) h = if x = 0 ∨ x = 1 then some (some (.int x), h) else none := f_retZ rfl
theorem zL_law_522 {L : Nat} {xs : Nat → Int32} {O : e_O} {a0 a2 a3 : Value} {st : List Value} {h : e_H} {x : Nat} : e_F (kL_law L xs) O 522 [a0, .ref x, a2, a3] (st) h = e_F (kL_law L xs) O 523 [a0, .ref x, a2, a3] (.ref x :: st) h := e_F_op rfl rfl
theorem zL_law_523 {L : Nat} {xs : Nat → Int32} {O : e_O} {a1 a2 a3 : Value} {st : List Value} {h : e_H} {x : Nat} : e_F (kL_law L xs) O 523 [.retAddr x, a1, a2, a3] (st) h = e_F (kL_law L xs) O 524 [.retAddr x, a1, a2, a3] (.retAddr x :: st) h := e_F_op rfl rfl
theorem zL_law_524 {L : Nat} {xs : Nat → Int32} {O : e_O} {a0 a1 a2 : Value} {st : List Value} {h : e_H} {x : Int32} : e_F (kL_law L xs) O 524 [a0, a1, a2, .int x] (st) h = e_F (kL_law L xs) O 525 [a0, a1, a2, .int x] (.int x :: st) h := e_F_op rfl rfl
theorem zL_law_525 {L : Nat} {xs : Nat → Int32} {O : e_O} {a0 a1 a2 a3 : Value} {st : List Value} {h : e_H}  : e_F (kL_law L xs) O 525 [a0, a1, a2, a3] (st) h = e_F (kL_law L xs) O 526 [a0, a1, a2, a3] (.int 1 :: st) h := e_F_op rfl rfl
theorem zL_law_526 {L : Nat} {xs : Nat → Int32} {O : e_O} {a0 a1 a2 a3 : Value} {st : List Value} {h : e_H} {y : Int32} {x : Int32} : e_F (kL_law L xs) O 526 [a0, a1, a2, a3] (.int y :: .int x :: st) h = e_F (kL_law L xs) O 527 [a0, a1, a2, a3] (.int (x + y) :: st) h := e_F_op rfl rfl
theorem zL_law_527 {L : Nat} {xs : Nat → Int32} {O : e_O} {a0 a1 a2 a3 : Value} {st : List Value} {h : e_H} {i : Int32} : e_F (kL_law L xs) O 527 [a0, a1, a2, a3] (.int i :: .retAddr 0 :: st) h = if e_inb i L = true then e_F (kL_law L xs) O 528 [a0, a1, a2, a3] (.int (xs i.toNatClampNeg) :: st) h else none := f_sld rfl
theorem zL_law_528 {L : Nat} {xs : Nat → Int32} {O : e_O} {a1 a2 a3 : Value} {st : List Value} {h : e_H} {x : Nat} : e_F (kL_law L xs) O 528 [.retAddr x, a1, a2, a3] (st) h = e_F (kL_law L xs) O 529 [.retAddr x, a1, a2, a3] (.retAddr x :: st) h := e_F_op rfl rfl
theorem zL_law_529 {L : Nat} {xs : Nat → Int32} {O : e_O} {a0 a1 a2 : Value} {st : List Value} {h : e_H} {x : Int32} : e_F (kL_law L xs) O 529 [a0, a1, a2, .int x] (st) h = e_F (kL_law L xs) O 530 [a0, a1, a2, .int x] (.int x :: st) h := e_F_op rfl rfl
theorem zL_law_530 {L : Nat} {xs : Nat → Int32} {O : e_O} {a0 a1 a2 a3 : Value} {st : List Value} {h : e_H}  : e_F (kL_law L xs) O 530 [a0, a1, a2, a3] (st) h = e_F (kL_law L xs) O 531 [a0, a1, a2, a3] (.int 2 :: st) h := e_F_op rfl rfl
theorem zL_law_531 {L : Nat} {xs : Nat → Int32} {O : e_O} {a0 a1 a2 a3 : Value} {st : List Value} {h : e_H} {y : Int32} {x : Int32} : e_F (kL_law L xs) O 531 [a0, a1, a2, a3] (.int y :: .int x :: st) h = e_F (kL_law L xs) O 532 [a0, a1, a2, a3] (.int (x + y) :: st) h := e_F_op rfl rfl
theorem zL_law_532 {L : Nat} {xs : Nat → Int32} {O : e_O} {a0 a1 a2 a3 : Value} {st : List Value} {h : e_H} {i : Int32} : e_F (kL_law L xs) O 532 [a0, a1, a2, a3] (.int i :: .retAddr 0 :: st) h = if e_inb i L = true then e_F (kL_law L xs) O 533 [a0, a1, a2, a3] (.int (xs i.toNatClampNeg) :: st) h else none := f_sld rfl
theorem zL_law_533 {L : Nat} {xs : Nat → Int32} {O : e_O} {a1 a2 a3 : Value} {st : List Value} {h : e_H} {x : Nat} : e_F (kL_law L xs) O 533 [.retAddr x, a1, a2, a3] (st) h = e_F (kL_law L xs) O 534 [.retAddr x, a1, a2, a3] (.retAddr x :: st) h := e_F_op rfl rfl
theorem zL_law_534 {L : Nat} {xs : Nat → Int32} {O : e_O} {a0 a1 a2 : Value} {st : List Value} {h : e_H} {x : Int32} : e_F (kL_law L xs) O 534 [a0, a1, a2, .int x] (st) h = e_F (kL_law L xs) O 535 [a0, a1, a2, .int x] (.int x :: st) h := e_F_op rfl rfl
theorem zL_law_535 {L : Nat} {xs : Nat → Int32} {O : e_O} {a0 a1 a2 a3 : Value} {st : List Value} {h : e_H}  : e_F (kL_law L xs) O 535 [a0, a1, a2, a3] (st) h = e_F (kL_law L xs) O 536 [a0, a1, a2, a3] (.int 3 :: st) h := e_F_op rfl rfl
theorem zL_law_536 {L : Nat} {xs : Nat → Int32} {O : e_O} {a0 a1 a2 a3 : Value} {st : List Value} {h : e_H} {y : Int32} {x : Int32} : e_F (kL_law L xs) O 536 [a0, a1, a2, a3] (.int y :: .int x :: st) h = e_F (kL_law L xs) O 537 [a0, a1, a2, a3] (.int (x + y) :: st) h := e_F_op rfl rfl
theorem zL_law_537 {L : Nat} {xs : Nat → Int32} {O : e_O} {a0 a1 a2 a3 : Value} {st : List Value} {h : e_H} {i : Int32} : e_F (kL_law L xs) O 537 [a0, a1, a2, a3] (.int i :: .retAddr 0 :: st) h = if e_inb i L = true then e_F (kL_law L xs) O 538 [a0, a1, a2, a3] (.int (xs i.toNatClampNeg) :: st) h else none := f_sld rfl
theorem zL_law_538 {L : Nat} {xs : Nat → Int32} {O : e_O} {a0 a1 a2 a3 : Value} {st : List Value} {h : e_H} {v0 : Int32} {v1 : Int32} {v2 : Int32} : e_F (kL_law L xs) O 538 [a0, a1, a2, a3] (.int v2 :: .int v1 :: .int v0 :: .ref 0 :: st) h = if e_cats st ≤ 8 then (O 43 [.ref 0, .int v0, .int v1, .int v2] h).bind (fun q => e_F (kL_law L xs) O 541 [a0, a1, a2, a3] (q.1.toList ++ st) q.2) else none := f_cV rfl rfl rfl rfl
theorem zL_law_541 {L : Nat} {xs : Nat → Int32} {O : e_O} {a0 a1 a3 : Value} {st : List Value} {h : e_H} {x : Nat} : e_F (kL_law L xs) O 541 [a0, a1, .ref x, a3] (st) h = e_F (kL_law L xs) O 542 [a0, a1, .ref x, a3] (.ref x :: st) h := e_F_op rfl rfl
theorem zL_law_542 {L : Nat} {xs : Nat → Int32} {O : e_O} {a1 a2 a3 : Value} {st : List Value} {h : e_H} {x : Nat} : e_F (kL_law L xs) O 542 [.retAddr x, a1, a2, a3] (st) h = e_F (kL_law L xs) O 543 [.retAddr x, a1, a2, a3] (.retAddr x :: st) h := e_F_op rfl rfl
theorem zL_law_543 {L : Nat} {xs : Nat → Int32} {O : e_O} {a0 a1 a2 : Value} {st : List Value} {h : e_H} {x : Int32} : e_F (kL_law L xs) O 543 [a0, a1, a2, .int x] (st) h = e_F (kL_law L xs) O 544 [a0, a1, a2, .int x] (.int x :: st) h := e_F_op rfl rfl
theorem zL_law_544 {L : Nat} {xs : Nat → Int32} {O : e_O} {a0 a1 a2 a3 : Value} {st : List Value} {h : e_H}  : e_F (kL_law L xs) O 544 [a0, a1, a2, a3] (st) h = e_F (kL_law L xs) O 545 [a0, a1, a2, a3] (.int 1 :: st) h := e_F_op rfl rfl
theorem zL_law_545 {L : Nat} {xs : Nat → Int32} {O : e_O} {a0 a1 a2 a3 : Value} {st : List Value} {h : e_H} {y : Int32} {x : Int32} : e_F (kL_law L xs) O 545 [a0, a1, a2, a3] (.int y :: .int x :: st) h = e_F (kL_law L xs) O 546 [a0, a1, a2, a3] (.int (x + y) :: st) h := e_F_op rfl rfl
theorem zL_law_546 {L : Nat} {xs : Nat → Int32} {O : e_O} {a0 a1 a2 a3 : Value} {st : List Value} {h : e_H} {i : Int32} : e_F (kL_law L xs) O 546 [a0, a1, a2, a3] (.int i :: .retAddr 0 :: st) h = if e_inb i L = true then e_F (kL_law L xs) O 547 [a0, a1, a2, a3] (.int (xs i.toNatClampNeg) :: st) h else none := f_sld rfl
theorem zL_law_547 {L : Nat} {xs : Nat → Int32} {O : e_O} {a1 a2 a3 : Value} {st : List Value} {h : e_H} {x : Nat} : e_F (kL_law L xs) O 547 [.retAddr x, a1, a2, a3] (st) h = e_F (kL_law L xs) O 548 [.retAddr x, a1, a2, a3] (.retAddr x :: st) h := e_F_op rfl rfl
theorem zL_law_548 {L : Nat} {xs : Nat → Int32} {O : e_O} {a0 a1 a2 : Value} {st : List Value} {h : e_H} {x : Int32} : e_F (kL_law L xs) O 548 [a0, a1, a2, .int x] (st) h = e_F (kL_law L xs) O 549 [a0, a1, a2, .int x] (.int x :: st) h := e_F_op rfl rfl
theorem zL_law_549 {L : Nat} {xs : Nat → Int32} {O : e_O} {a0 a1 a2 a3 : Value} {st : List Value} {h : e_H}  : e_F (kL_law L xs) O 549 [a0, a1, a2, a3] (st) h = e_F (kL_law L xs) O 550 [a0, a1, a2, a3] (.int 2 :: st) h := e_F_op rfl rfl
theorem zL_law_550 {L : Nat} {xs : Nat → Int32} {O : e_O} {a0 a1 a2 a3 : Value} {st : List Value} {h : e_H} {y : Int32} {x : Int32} : e_F (kL_law L xs) O 550 [a0, a1, a2, a3] (.int y :: .int x :: st) h = e_F (kL_law L xs) O 551 [a0, a1, a2, a3] (.int (x + y) :: st) h := e_F_op rfl rfl
theorem zL_law_551 {L : Nat} {xs : Nat → Int32} {O : e_O} {a0 a1 a2 a3 : Value} {st : List Value} {h : e_H} {i : Int32} : e_F (kL_law L xs) O 551 [a0, a1, a2, a3] (.int i :: .retAddr 0 :: st) h = if e_inb i L = true then e_F (kL_law L xs) O 552 [a0, a1, a2, a3] (.int (xs i.toNatClampNeg) :: st) h else none := f_sld rfl
theorem zL_law_552 {L : Nat} {xs : Nat → Int32} {O : e_O} {a1 a2 a3 : Value} {st : List Value} {h : e_H} {x : Nat} : e_F (kL_law L xs) O 552 [.retAddr x, a1, a2, a3] (st) h = e_F (kL_law L xs) O 553 [.retAddr x, a1, a2, a3] (.retAddr x :: st) h := e_F_op rfl rfl
theorem zL_law_553 {L : Nat} {xs : Nat → Int32} {O : e_O} {a0 a1 a2 : Value} {st : List Value} {h : e_H} {x : Int32} : e_F (kL_law L xs) O 553 [a0, a1, a2, .int x] (st) h = e_F (kL_law L xs) O 554 [a0, a1, a2, .int x] (.int x :: st) h := e_F_op rfl rfl
theorem zL_law_554 {L : Nat} {xs : Nat → Int32} {O : e_O} {a0 a1 a2 a3 : Value} {st : List Value} {h : e_H}  : e_F (kL_law L xs) O 554 [a0, a1, a2, a3] (st) h = e_F (kL_law L xs) O 555 [a0, a1, a2, a3] (.int 3 :: st) h := e_F_op rfl rfl
theorem zL_law_555 {L : Nat} {xs : Nat → Int32} {O : e_O} {a0 a1 a2 a3 : Value} {st : List Value} {h : e_H} {y : Int32} {x : Int32} : e_F (kL_law L xs) O 555 [a0, a1, a2, a3] (.int y :: .int x :: st) h = e_F (kL_law L xs) O 556 [a0, a1, a2, a3] (.int (x + y) :: st) h := e_F_op rfl rfl
theorem zL_law_556 {L : Nat} {xs : Nat → Int32} {O : e_O} {a0 a1 a2 a3 : Value} {st : List Value} {h : e_H} {i : Int32} : e_F (kL_law L xs) O 556 [a0, a1, a2, a3] (.int i :: .retAddr 0 :: st) h = if e_inb i L = true then e_F (kL_law L xs) O 557 [a0, a1, a2, a3] (.int (xs i.toNatClampNeg) :: st) h else none := f_sld rfl
theorem zL_law_557 {L : Nat} {xs : Nat → Int32} {O : e_O} {a0 a1 a2 a3 : Value} {st : List Value} {h : e_H} {v0 : Int32} {v1 : Int32} {v2 : Int32} : e_F (kL_law L xs) O 557 [a0, a1, a2, a3] (.int v2 :: .int v1 :: .int v0 :: .ref 40 :: st) h = if e_cats st ≤ 8 then (O 127 [.ref 40, .int v0, .int v1, .int v2] h).bind (fun q => e_F (kL_law L xs) O 560 [a0, a1, a2, a3] (q.1.toList ++ st) q.2) else none := f_cV rfl rfl rfl rfl
theorem zL_law_560 {L : Nat} {xs : Nat → Int32} {O : e_O} {a0 a1 a2 a3 : Value} {st : List Value} {h : e_H} {y : Int32} {x : Int32} : e_F (kL_law L xs) O 560 [a0, a1, a2, a3] (.int y :: .int x :: st) h = if x = y then e_F (kL_law L xs) O 1009 [a0, a1, a2, a3] (st) h else e_F (kL_law L xs) O 563 [a0, a1, a2, a3] (st) h := f_ic (P := fun x y => x = y) rfl
theorem zL_law_563 {L : Nat} {xs : Nat → Int32} {O : e_O} {a0 a1 a2 a3 : Value} {st : List Value} {h : e_H}  : e_F (kL_law L xs) O 563 [a0, a1, a2, a3] (st) h = e_F (kL_law L xs) O 564 [a0, a1, a2, a3] (.int 0 :: st) h := e_F_op rfl rfl
theorem zL_law_564 {L : Nat} {xs : Nat → Int32} {O : e_O} {a0 a1 a2 a3 : Value}  {h : e_H} {x : Int32} : e_F (kL_law L xs) O 564 [a0, a1, a2, a3] ([.int x]) h = if x = 0 ∨ x = 1 then some (some (.int x), h) else none := f_retZ rfl
theorem zL_law_565 {L : Nat} {xs : Nat → Int32} {O : e_O} {a0 a2 a3 : Value} {st : List Value} {h : e_H} {x : Nat} : e_F (kL_law L xs) O 565 [a0, .ref x, a2, a3] (st) h = e_F (kL_law L xs) O 566 [a0, .ref x, a2, a3] (.ref x :: st) h := e_F_op rfl rfl
theorem zL_law_566 {L : Nat} {xs : Nat → Int32} {O : e_O} {a1 a2 a3 : Value} {st : List Value} {h : e_H} {x : Nat} : e_F (kL_law L xs) O 566 [.retAddr x, a1, a2, a3] (st) h = e_F (kL_law L xs) O 567 [.retAddr x, a1, a2, a3] (.retAddr x :: st) h := e_F_op rfl rfl
theorem zL_law_567 {L : Nat} {xs : Nat → Int32} {O : e_O} {a0 a1 a2 : Value} {st : List Value} {h : e_H} {x : Int32} : e_F (kL_law L xs) O 567 [a0, a1, a2, .int x] (st) h = e_F (kL_law L xs) O 568 [a0, a1, a2, .int x] (.int x :: st) h := e_F_op rfl rfl
theorem zL_law_568 {L : Nat} {xs : Nat → Int32} {O : e_O} {a0 a1 a2 a3 : Value} {st : List Value} {h : e_H}  : e_F (kL_law L xs) O 568 [a0, a1, a2, a3] (st) h = e_F (kL_law L xs) O 569 [a0, a1, a2, a3] (.int 1 :: st) h := e_F_op rfl rfl
theorem zL_law_569 {L : Nat} {xs : Nat → Int32} {O : e_O} {a0 a1 a2 a3 : Value} {st : List Value} {h : e_H} {y : Int32} {x : Int32} : e_F (kL_law L xs) O 569 [a0, a1, a2, a3] (.int y :: .int x :: st) h = e_F (kL_law L xs) O 570 [a0, a1, a2, a3] (.int (x + y) :: st) h := e_F_op rfl rfl
theorem zL_law_570 {L : Nat} {xs : Nat → Int32} {O : e_O} {a0 a1 a2 a3 : Value} {st : List Value} {h : e_H} {i : Int32} : e_F (kL_law L xs) O 570 [a0, a1, a2, a3] (.int i :: .retAddr 0 :: st) h = if e_inb i L = true then e_F (kL_law L xs) O 571 [a0, a1, a2, a3] (.int (xs i.toNatClampNeg) :: st) h else none := f_sld rfl
theorem zL_law_571 {L : Nat} {xs : Nat → Int32} {O : e_O} {a1 a2 a3 : Value} {st : List Value} {h : e_H} {x : Nat} : e_F (kL_law L xs) O 571 [.retAddr x, a1, a2, a3] (st) h = e_F (kL_law L xs) O 572 [.retAddr x, a1, a2, a3] (.retAddr x :: st) h := e_F_op rfl rfl
theorem zL_law_572 {L : Nat} {xs : Nat → Int32} {O : e_O} {a0 a1 a2 : Value} {st : List Value} {h : e_H} {x : Int32} : e_F (kL_law L xs) O 572 [a0, a1, a2, .int x] (st) h = e_F (kL_law L xs) O 573 [a0, a1, a2, .int x] (.int x :: st) h := e_F_op rfl rfl
theorem zL_law_573 {L : Nat} {xs : Nat → Int32} {O : e_O} {a0 a1 a2 a3 : Value} {st : List Value} {h : e_H}  : e_F (kL_law L xs) O 573 [a0, a1, a2, a3] (st) h = e_F (kL_law L xs) O 574 [a0, a1, a2, a3] (.int 2 :: st) h := e_F_op rfl rfl
theorem zL_law_574 {L : Nat} {xs : Nat → Int32} {O : e_O} {a0 a1 a2 a3 : Value} {st : List Value} {h : e_H} {y : Int32} {x : Int32} : e_F (kL_law L xs) O 574 [a0, a1, a2, a3] (.int y :: .int x :: st) h = e_F (kL_law L xs) O 575 [a0, a1, a2, a3] (.int (x + y) :: st) h := e_F_op rfl rfl
theorem zL_law_575 {L : Nat} {xs : Nat → Int32} {O : e_O} {a0 a1 a2 a3 : Value} {st : List Value} {h : e_H} {i : Int32} : e_F (kL_law L xs) O 575 [a0, a1, a2, a3] (.int i :: .retAddr 0 :: st) h = if e_inb i L = true then e_F (kL_law L xs) O 576 [a0, a1, a2, a3] (.int (xs i.toNatClampNeg) :: st) h else none := f_sld rfl
theorem zL_law_576 {L : Nat} {xs : Nat → Int32} {O : e_O} {a0 a1 a2 a3 : Value} {st : List Value} {h : e_H} {v0 : Int32} {v1 : Int32} : e_F (kL_law L xs) O 576 [a0, a1, a2, a3] (.int v1 :: .int v0 :: .ref 0 :: st) h = if e_cats st ≤ 8 then (O 44 [.ref 0, .int v0, .int v1] h).bind (fun q => e_F (kL_law L xs) O 579 [a0, a1, a2, a3] (q.1.toList ++ st) q.2) else none := f_cV rfl rfl rfl rfl
theorem zL_law_579 {L : Nat} {xs : Nat → Int32} {O : e_O} {a0 a1 a3 : Value} {st : List Value} {h : e_H} {x : Nat} : e_F (kL_law L xs) O 579 [a0, a1, .ref x, a3] (st) h = e_F (kL_law L xs) O 580 [a0, a1, .ref x, a3] (.ref x :: st) h := e_F_op rfl rfl
theorem zL_law_580 {L : Nat} {xs : Nat → Int32} {O : e_O} {a1 a2 a3 : Value} {st : List Value} {h : e_H} {x : Nat} : e_F (kL_law L xs) O 580 [.retAddr x, a1, a2, a3] (st) h = e_F (kL_law L xs) O 581 [.retAddr x, a1, a2, a3] (.retAddr x :: st) h := e_F_op rfl rfl
theorem zL_law_581 {L : Nat} {xs : Nat → Int32} {O : e_O} {a0 a1 a2 : Value} {st : List Value} {h : e_H} {x : Int32} : e_F (kL_law L xs) O 581 [a0, a1, a2, .int x] (st) h = e_F (kL_law L xs) O 582 [a0, a1, a2, .int x] (.int x :: st) h := e_F_op rfl rfl
theorem zL_law_582 {L : Nat} {xs : Nat → Int32} {O : e_O} {a0 a1 a2 a3 : Value} {st : List Value} {h : e_H}  : e_F (kL_law L xs) O 582 [a0, a1, a2, a3] (st) h = e_F (kL_law L xs) O 583 [a0, a1, a2, a3] (.int 1 :: st) h := e_F_op rfl rfl
theorem zL_law_583 {L : Nat} {xs : Nat → Int32} {O : e_O} {a0 a1 a2 a3 : Value} {st : List Value} {h : e_H} {y : Int32} {x : Int32} : e_F (kL_law L xs) O 583 [a0, a1, a2, a3] (.int y :: .int x :: st) h = e_F (kL_law L xs) O 584 [a0, a1, a2, a3] (.int (x + y) :: st) h := e_F_op rfl rfl
theorem zL_law_584 {L : Nat} {xs : Nat → Int32} {O : e_O} {a0 a1 a2 a3 : Value} {st : List Value} {h : e_H} {i : Int32} : e_F (kL_law L xs) O 584 [a0, a1, a2, a3] (.int i :: .retAddr 0 :: st) h = if e_inb i L = true then e_F (kL_law L xs) O 585 [a0, a1, a2, a3] (.int (xs i.toNatClampNeg) :: st) h else none := f_sld rfl
theorem zL_law_585 {L : Nat} {xs : Nat → Int32} {O : e_O} {a1 a2 a3 : Value} {st : List Value} {h : e_H} {x : Nat} : e_F (kL_law L xs) O 585 [.retAddr x, a1, a2, a3] (st) h = e_F (kL_law L xs) O 586 [.retAddr x, a1, a2, a3] (.retAddr x :: st) h := e_F_op rfl rfl
theorem zL_law_586 {L : Nat} {xs : Nat → Int32} {O : e_O} {a0 a1 a2 : Value} {st : List Value} {h : e_H} {x : Int32} : e_F (kL_law L xs) O 586 [a0, a1, a2, .int x] (st) h = e_F (kL_law L xs) O 587 [a0, a1, a2, .int x] (.int x :: st) h := e_F_op rfl rfl
theorem zL_law_587 {L : Nat} {xs : Nat → Int32} {O : e_O} {a0 a1 a2 a3 : Value} {st : List Value} {h : e_H}  : e_F (kL_law L xs) O 587 [a0, a1, a2, a3] (st) h = e_F (kL_law L xs) O 588 [a0, a1, a2, a3] (.int 2 :: st) h := e_F_op rfl rfl
theorem zL_law_588 {L : Nat} {xs : Nat → Int32} {O : e_O} {a0 a1 a2 a3 : Value} {st : List Value} {h : e_H} {y : Int32} {x : Int32} : e_F (kL_law L xs) O 588 [a0, a1, a2, a3] (.int y :: .int x :: st) h = e_F (kL_law L xs) O 589 [a0, a1, a2, a3] (.int (x + y) :: st) h := e_F_op rfl rfl
theorem zL_law_589 {L : Nat} {xs : Nat → Int32} {O : e_O} {a0 a1 a2 a3 : Value} {st : List Value} {h : e_H} {i : Int32} : e_F (kL_law L xs) O 589 [a0, a1, a2, a3] (.int i :: .retAddr 0 :: st) h = if e_inb i L = true then e_F (kL_law L xs) O 590 [a0, a1, a2, a3] (.int (xs i.toNatClampNeg) :: st) h else none := f_sld rfl
theorem zL_law_590 {L : Nat} {xs : Nat → Int32} {O : e_O} {a0 a1 a2 a3 : Value} {st : List Value} {h : e_H} {v0 : Int32} {v1 : Int32} : e_F (kL_law L xs) O 590 [a0, a1, a2, a3] (.int v1 :: .int v0 :: .ref 40 :: st) h = if e_cats st ≤ 8 then (O 130 [.ref 40, .int v0, .int v1] h).bind (fun q => e_F (kL_law L xs) O 593 [a0, a1, a2, a3] (q.1.toList ++ st) q.2) else none := f_cV rfl rfl rfl rfl
theorem zL_law_593 {L : Nat} {xs : Nat → Int32} {O : e_O} {a0 a1 a2 a3 : Value} {st : List Value} {h : e_H} {y : Int32} {x : Int32} : e_F (kL_law L xs) O 593 [a0, a1, a2, a3] (.int y :: .int x :: st) h = if x = y then e_F (kL_law L xs) O 1009 [a0, a1, a2, a3] (st) h else e_F (kL_law L xs) O 596 [a0, a1, a2, a3] (st) h := f_ic (P := fun x y => x = y) rfl
theorem zL_law_596 {L : Nat} {xs : Nat → Int32} {O : e_O} {a0 a1 a2 a3 : Value} {st : List Value} {h : e_H}  : e_F (kL_law L xs) O 596 [a0, a1, a2, a3] (st) h = e_F (kL_law L xs) O 597 [a0, a1, a2, a3] (.int 0 :: st) h := e_F_op rfl rfl
theorem zL_law_597 {L : Nat} {xs : Nat → Int32} {O : e_O} {a0 a1 a2 a3 : Value}  {h : e_H} {x : Int32} : e_F (kL_law L xs) O 597 [a0, a1, a2, a3] ([.int x]) h = if x = 0 ∨ x = 1 then some (some (.int x), h) else none := f_retZ rfl
theorem zL_law_598 {L : Nat} {xs : Nat → Int32} {O : e_O} {a0 a2 a3 : Value} {st : List Value} {h : e_H} {x : Nat} : e_F (kL_law L xs) O 598 [a0, .ref x, a2, a3] (st) h = e_F (kL_law L xs) O 599 [a0, .ref x, a2, a3] (.ref x :: st) h := e_F_op rfl rfl
theorem zL_law_599 {L : Nat} {xs : Nat → Int32} {O : e_O} {a1 a2 a3 : Value} {st : List Value} {h : e_H} {x : Nat} : e_F (kL_law L xs) O 599 [.retAddr x, a1, a2, a3] (st) h = e_F (kL_law L xs) O 600 [.retAddr x, a1, a2, a3] (.retAddr x :: st) h := e_F_op rfl rfl
theorem zL_law_600 {L : Nat} {xs : Nat → Int32} {O : e_O} {a0 a1 a2 : Value} {st : List Value} {h : e_H} {x : Int32} : e_F (kL_law L xs) O 600 [a0, a1, a2, .int x] (st) h = e_F (kL_law L xs) O 601 [a0, a1, a2, .int x] (.int x :: st) h := e_F_op rfl rfl
theorem zL_law_601 {L : Nat} {xs : Nat → Int32} {O : e_O} {a0 a1 a2 a3 : Value} {st : List Value} {h : e_H}  : e_F (kL_law L xs) O 601 [a0, a1, a2, a3] (st) h = e_F (kL_law L xs) O 602 [a0, a1, a2, a3] (.int 1 :: st) h := e_F_op rfl rfl
theorem zL_law_602 {L : Nat} {xs : Nat → Int32} {O : e_O} {a0 a1 a2 a3 : Value} {st : List Value} {h : e_H} {y : Int32} {x : Int32} : e_F (kL_law L xs) O 602 [a0, a1, a2, a3] (.int y :: .int x :: st) h = e_F (kL_law L xs) O 603 [a0, a1, a2, a3] (.int (x + y) :: st) h := e_F_op rfl rfl
theorem zL_law_603 {L : Nat} {xs : Nat → Int32} {O : e_O} {a0 a1 a2 a3 : Value} {st : List Value} {h : e_H} {i : Int32} : e_F (kL_law L xs) O 603 [a0, a1, a2, a3] (.int i :: .retAddr 0 :: st) h = if e_inb i L = true then e_F (kL_law L xs) O 604 [a0, a1, a2, a3] (.int (xs i.toNatClampNeg) :: st) h else none := f_sld rfl
theorem zL_law_604 {L : Nat} {xs : Nat → Int32} {O : e_O} {a0 a1 a2 a3 : Value} {st : List Value} {h : e_H} {v0 : Int32} : e_F (kL_law L xs) O 604 [a0, a1, a2, a3] (.int v0 :: .ref 0 :: st) h = if e_cats st ≤ 8 then (O 45 [.ref 0, .int v0] h).bind (fun q => e_F (kL_law L xs) O 607 [a0, a1, a2, a3] (q.1.toList ++ st) q.2) else none := f_cV rfl rfl rfl rfl
theorem zL_law_607 {L : Nat} {xs : Nat → Int32} {O : e_O} {a0 a1 a3 : Value} {st : List Value} {h : e_H} {x : Nat} : e_F (kL_law L xs) O 607 [a0, a1, .ref x, a3] (st) h = e_F (kL_law L xs) O 608 [a0, a1, .ref x, a3] (.ref x :: st) h := e_F_op rfl rfl
theorem zL_law_608 {L : Nat} {xs : Nat → Int32} {O : e_O} {a1 a2 a3 : Value} {st : List Value} {h : e_H} {x : Nat} : e_F (kL_law L xs) O 608 [.retAddr x, a1, a2, a3] (st) h = e_F (kL_law L xs) O 609 [.retAddr x, a1, a2, a3] (.retAddr x :: st) h := e_F_op rfl rfl
theorem zL_law_609 {L : Nat} {xs : Nat → Int32} {O : e_O} {a0 a1 a2 : Value} {st : List Value} {h : e_H} {x : Int32} : e_F (kL_law L xs) O 609 [a0, a1, a2, .int x] (st) h = e_F (kL_law L xs) O 610 [a0, a1, a2, .int x] (.int x :: st) h := e_F_op rfl rfl
theorem zL_law_610 {L : Nat} {xs : Nat → Int32} {O : e_O} {a0 a1 a2 a3 : Value} {st : List Value} {h : e_H}  : e_F (kL_law L xs) O 610 [a0, a1, a2, a3] (st) h = e_F (kL_law L xs) O 611 [a0, a1, a2, a3] (.int 1 :: st) h := e_F_op rfl rfl
theorem zL_law_611 {L : Nat} {xs : Nat → Int32} {O : e_O} {a0 a1 a2 a3 : Value} {st : List Value} {h : e_H} {y : Int32} {x : Int32} : e_F (kL_law L xs) O 611 [a0, a1, a2, a3] (.int y :: .int x :: st) h = e_F (kL_law L xs) O 612 [a0, a1, a2, a3] (.int (x + y) :: st) h := e_F_op rfl rfl
theorem zL_law_612 {L : Nat} {xs : Nat → Int32} {O : e_O} {a0 a1 a2 a3 : Value} {st : List Value} {h : e_H} {i : Int32} : e_F (kL_law L xs) O 612 [a0, a1, a2, a3] (.int i :: .retAddr 0 :: st) h = if e_inb i L = true then e_F (kL_law L xs) O 613 [a0, a1, a2, a3] (.int (xs i.toNatClampNeg) :: st) h else none := f_sld rfl
theorem zL_law_613 {L : Nat} {xs : Nat → Int32} {O : e_O} {a0 a1 a2 a3 : Value} {st : List Value} {h : e_H} {v0 : Int32} : e_F (kL_law L xs) O 613 [a0, a1, a2, a3] (.int v0 :: .ref 40 :: st) h = if e_cats st ≤ 8 then (O 134 [.ref 40, .int v0] h).bind (fun q => e_F (kL_law L xs) O 616 [a0, a1, a2, a3] (q.1.toList ++ st) q.2) else none := f_cV rfl rfl rfl rfl
theorem zL_law_616 {L : Nat} {xs : Nat → Int32} {O : e_O} {a0 a1 a2 a3 : Value} {st : List Value} {h : e_H} {y : Int32} {x : Int32} : e_F (kL_law L xs) O 616 [a0, a1, a2, a3] (.int y :: .int x :: st) h = if x = y then e_F (kL_law L xs) O 1009 [a0, a1, a2, a3] (st) h else e_F (kL_law L xs) O 619 [a0, a1, a2, a3] (st) h := f_ic (P := fun x y => x = y) rfl
theorem zL_law_619 {L : Nat} {xs : Nat → Int32} {O : e_O} {a0 a1 a2 a3 : Value} {st : List Value} {h : e_H}  : e_F (kL_law L xs) O 619 [a0, a1, a2, a3] (st) h = e_F (kL_law L xs) O 620 [a0, a1, a2, a3] (.int 0 :: st) h := e_F_op rfl rfl
theorem zL_law_620 {L : Nat} {xs : Nat → Int32} {O : e_O} {a0 a1 a2 a3 : Value}  {h : e_H} {x : Int32} : e_F (kL_law L xs) O 620 [a0, a1, a2, a3] ([.int x]) h = if x = 0 ∨ x = 1 then some (some (.int x), h) else none := f_retZ rfl
theorem zL_law_621 {L : Nat} {xs : Nat → Int32} {O : e_O} {a0 a2 a3 : Value} {st : List Value} {h : e_H} {x : Nat} : e_F (kL_law L xs) O 621 [a0, .ref x, a2, a3] (st) h = e_F (kL_law L xs) O 622 [a0, .ref x, a2, a3] (.ref x :: st) h := e_F_op rfl rfl
theorem zL_law_622 {L : Nat} {xs : Nat → Int32} {O : e_O} {a1 a2 a3 : Value} {st : List Value} {h : e_H} {x : Nat} : e_F (kL_law L xs) O 622 [.retAddr x, a1, a2, a3] (st) h = e_F (kL_law L xs) O 623 [.retAddr x, a1, a2, a3] (.retAddr x :: st) h := e_F_op rfl rfl
theorem zL_law_623 {L : Nat} {xs : Nat → Int32} {O : e_O} {a0 a1 a2 : Value} {st : List Value} {h : e_H} {x : Int32} : e_F (kL_law L xs) O 623 [a0, a1, a2, .int x] (st) h = e_F (kL_law L xs) O 624 [a0, a1, a2, .int x] (.int x :: st) h := e_F_op rfl rfl
theorem zL_law_624 {L : Nat} {xs : Nat → Int32} {O : e_O} {a0 a1 a2 a3 : Value} {st : List Value} {h : e_H}  : e_F (kL_law L xs) O 624 [a0, a1, a2, a3] (st) h = e_F (kL_law L xs) O 625 [a0, a1, a2, a3] (.int 1 :: st) h := e_F_op rfl rfl
theorem zL_law_625 {L : Nat} {xs : Nat → Int32} {O : e_O} {a0 a1 a2 a3 : Value} {st : List Value} {h : e_H} {y : Int32} {x : Int32} : e_F (kL_law L xs) O 625 [a0, a1, a2, a3] (.int y :: .int x :: st) h = e_F (kL_law L xs) O 626 [a0, a1, a2, a3] (.int (x + y) :: st) h := e_F_op rfl rfl
theorem zL_law_626 {L : Nat} {xs : Nat → Int32} {O : e_O} {a0 a1 a2 a3 : Value} {st : List Value} {h : e_H} {i : Int32} : e_F (kL_law L xs) O 626 [a0, a1, a2, a3] (.int i :: .retAddr 0 :: st) h = if e_inb i L = true then e_F (kL_law L xs) O 627 [a0, a1, a2, a3] (.int (xs i.toNatClampNeg) :: st) h else none := f_sld rfl
theorem zL_law_627 {L : Nat} {xs : Nat → Int32} {O : e_O} {a0 a1 a2 a3 : Value} {st : List Value} {h : e_H} {v0 : Int32} : e_F (kL_law L xs) O 627 [a0, a1, a2, a3] (.int v0 :: .ref 0 :: st) h = if e_cats st ≤ 8 then (O 46 [.ref 0, .int v0] h).bind (fun q => e_F (kL_law L xs) O 630 [a0, a1, a2, a3] (q.1.toList ++ st) q.2) else none := f_cV rfl rfl rfl rfl
theorem zL_law_630 {L : Nat} {xs : Nat → Int32} {O : e_O} {a0 a1 a3 : Value} {st : List Value} {h : e_H} {x : Nat} : e_F (kL_law L xs) O 630 [a0, a1, .ref x, a3] (st) h = e_F (kL_law L xs) O 631 [a0, a1, .ref x, a3] (.ref x :: st) h := e_F_op rfl rfl
theorem zL_law_631 {L : Nat} {xs : Nat → Int32} {O : e_O} {a1 a2 a3 : Value} {st : List Value} {h : e_H} {x : Nat} : e_F (kL_law L xs) O 631 [.retAddr x, a1, a2, a3] (st) h = e_F (kL_law L xs) O 632 [.retAddr x, a1, a2, a3] (.retAddr x :: st) h := e_F_op rfl rfl
theorem zL_law_632 {L : Nat} {xs : Nat → Int32} {O : e_O} {a0 a1 a2 : Value} {st : List Value} {h : e_H} {x : Int32} : e_F (kL_law L xs) O 632 [a0, a1, a2, .int x] (st) h = e_F (kL_law L xs) O 633 [a0, a1, a2, .int x] (.int x :: st) h := e_F_op rfl rfl
theorem zL_law_633 {L : Nat} {xs : Nat → Int32} {O : e_O} {a0 a1 a2 a3 : Value} {st : List Value} {h : e_H}  : e_F (kL_law L xs) O 633 [a0, a1, a2, a3] (st) h = e_F (kL_law L xs) O 634 [a0, a1, a2, a3] (.int 1 :: st) h := e_F_op rfl rfl
theorem zL_law_634 {L : Nat} {xs : Nat → Int32} {O : e_O} {a0 a1 a2 a3 : Value} {st : List Value} {h : e_H} {y : Int32} {x : Int32} : e_F (kL_law L xs) O 634 [a0, a1, a2, a3] (.int y :: .int x :: st) h = e_F (kL_law L xs) O 635 [a0, a1, a2, a3] (.int (x + y) :: st) h := e_F_op rfl rfl
theorem zL_law_635 {L : Nat} {xs : Nat → Int32} {O : e_O} {a0 a1 a2 a3 : Value} {st : List Value} {h : e_H} {i : Int32} : e_F (kL_law L xs) O 635 [a0, a1, a2, a3] (.int i :: .retAddr 0 :: st) h = if e_inb i L = true then e_F (kL_law L xs) O 636 [a0, a1, a2, a3] (.int (xs i.toNatClampNeg) :: st) h else none := f_sld rfl
theorem zL_law_636 {L : Nat} {xs : Nat → Int32} {O : e_O} {a0 a1 a2 a3 : Value} {st : List Value} {h : e_H} {v0 : Int32} : e_F (kL_law L xs) O 636 [a0, a1, a2, a3] (.int v0 :: .ref 40 :: st) h = if e_cats st ≤ 8 then (O 135 [.ref 40, .int v0] h).bind (fun q => e_F (kL_law L xs) O 639 [a0, a1, a2, a3] (q.1.toList ++ st) q.2) else none := f_cV rfl rfl rfl rfl
theorem zL_law_639 {L : Nat} {xs : Nat → Int32} {O : e_O} {a0 a1 a2 a3 : Value} {st : List Value} {h : e_H} {y : Int32} {x : Int32} : e_F (kL_law L xs) O 639 [a0, a1, a2, a3] (.int y :: .int x :: st) h = if x = y then e_F (kL_law L xs) O 1009 [a0, a1, a2, a3] (st) h else e_F (kL_law L xs) O 642 [a0, a1, a2, a3] (st) h := f_ic (P := fun x y => x = y) rfl
theorem zL_law_642 {L : Nat} {xs : Nat → Int32} {O : e_O} {a0 a1 a2 a3 : Value} {st : List Value} {h : e_H}  : e_F (kL_law L xs) O 642 [a0, a1, a2, a3] (st) h = e_F (kL_law L xs) O 643 [a0, a1, a2, a3] (.int 0 :: st) h := e_F_op rfl rfl
theorem zL_law_643 {L : Nat} {xs : Nat → Int32} {O : e_O} {a0 a1 a2 a3 : Value}  {h : e_H} {x : Int32} : e_F (kL_law L xs) O 643 [a0, a1, a2, a3] ([.int x]) h = if x = 0 ∨ x = 1 then some (some (.int x), h) else none := f_retZ rfl
theorem zL_law_644 {L : Nat} {xs : Nat → Int32} {O : e_O} {a0 a2 a3 : Value} {st : List Value} {h : e_H} {x : Nat} : e_F (kL_law L xs) O 644 [a0, .ref x, a2, a3] (st) h = e_F (kL_law L xs) O 645 [a0, .ref x, a2, a3] (.ref x :: st) h := e_F_op rfl rfl
theorem zL_law_645 {L : Nat} {xs : Nat → Int32} {O : e_O} {a1 a2 a3 : Value} {st : List Value} {h : e_H} {x : Nat} : e_F (kL_law L xs) O 645 [.retAddr x, a1, a2, a3] (st) h = e_F (kL_law L xs) O 646 [.retAddr x, a1, a2, a3] (.retAddr x :: st) h := e_F_op rfl rfl
theorem zL_law_646 {L : Nat} {xs : Nat → Int32} {O : e_O} {a0 a1 a2 : Value} {st : List Value} {h : e_H} {x : Int32} : e_F (kL_law L xs) O 646 [a0, a1, a2, .int x] (st) h = e_F (kL_law L xs) O 647 [a0, a1, a2, .int x] (.int x :: st) h := e_F_op rfl rfl
theorem zL_law_647 {L : Nat} {xs : Nat → Int32} {O : e_O} {a0 a1 a2 a3 : Value} {st : List Value} {h : e_H}  : e_F (kL_law L xs) O 647 [a0, a1, a2, a3] (st) h = e_F (kL_law L xs) O 648 [a0, a1, a2, a3] (.int 1 :: st) h := e_F_op rfl rfl
theorem zL_law_648 {L : Nat} {xs : Nat → Int32} {O : e_O} {a0 a1 a2 a3 : Value} {st : List Value} {h : e_H} {y : Int32} {x : Int32} : e_F (kL_law L xs) O 648 [a0, a1, a2, a3] (.int y :: .int x :: st) h = e_F (kL_law L xs) O 649 [a0, a1, a2, a3] (.int (x + y) :: st) h := e_F_op rfl rfl
theorem zL_law_649 {L : Nat} {xs : Nat → Int32} {O : e_O} {a0 a1 a2 a3 : Value} {st : List Value} {h : e_H} {i : Int32} : e_F (kL_law L xs) O 649 [a0, a1, a2, a3] (.int i :: .retAddr 0 :: st) h = if e_inb i L = true then e_F (kL_law L xs) O 650 [a0, a1, a2, a3] (.int (xs i.toNatClampNeg) :: st) h else none := f_sld rfl
theorem zL_law_650 {L : Nat} {xs : Nat → Int32} {O : e_O} {a1 a2 a3 : Value} {st : List Value} {h : e_H} {x : Nat} : e_F (kL_law L xs) O 650 [.retAddr x, a1, a2, a3] (st) h = e_F (kL_law L xs) O 651 [.retAddr x, a1, a2, a3] (.retAddr x :: st) h := e_F_op rfl rfl
theorem zL_law_651 {L : Nat} {xs : Nat → Int32} {O : e_O} {a0 a1 a2 : Value} {st : List Value} {h : e_H} {x : Int32} : e_F (kL_law L xs) O 651 [a0, a1, a2, .int x] (st) h = e_F (kL_law L xs) O 652 [a0, a1, a2, .int x] (.int x :: st) h := e_F_op rfl rfl
theorem zL_law_652 {L : Nat} {xs : Nat → Int32} {O : e_O} {a0 a1 a2 a3 : Value} {st : List Value} {h : e_H}  : e_F (kL_law L xs) O 652 [a0, a1, a2, a3] (st) h = e_F (kL_law L xs) O 653 [a0, a1, a2, a3] (.int 2 :: st) h := e_F_op rfl rfl
theorem zL_law_653 {L : Nat} {xs : Nat → Int32} {O : e_O} {a0 a1 a2 a3 : Value} {st : List Value} {h : e_H} {y : Int32} {x : Int32} : e_F (kL_law L xs) O 653 [a0, a1, a2, a3] (.int y :: .int x :: st) h = e_F (kL_law L xs) O 654 [a0, a1, a2, a3] (.int (x + y) :: st) h := e_F_op rfl rfl
theorem zL_law_654 {L : Nat} {xs : Nat → Int32} {O : e_O} {a0 a1 a2 a3 : Value} {st : List Value} {h : e_H} {i : Int32} : e_F (kL_law L xs) O 654 [a0, a1, a2, a3] (.int i :: .retAddr 0 :: st) h = if e_inb i L = true then e_F (kL_law L xs) O 655 [a0, a1, a2, a3] (.int (xs i.toNatClampNeg) :: st) h else none := f_sld rfl
theorem zL_law_655 {L : Nat} {xs : Nat → Int32} {O : e_O} {a1 a2 a3 : Value} {st : List Value} {h : e_H} {x : Nat} : e_F (kL_law L xs) O 655 [.retAddr x, a1, a2, a3] (st) h = e_F (kL_law L xs) O 656 [.retAddr x, a1, a2, a3] (.retAddr x :: st) h := e_F_op rfl rfl
theorem zL_law_656 {L : Nat} {xs : Nat → Int32} {O : e_O} {a0 a1 a2 : Value} {st : List Value} {h : e_H} {x : Int32} : e_F (kL_law L xs) O 656 [a0, a1, a2, .int x] (st) h = e_F (kL_law L xs) O 657 [a0, a1, a2, .int x] (.int x :: st) h := e_F_op rfl rfl
theorem zL_law_657 {L : Nat} {xs : Nat → Int32} {O : e_O} {a0 a1 a2 a3 : Value} {st : List Value} {h : e_H}  : e_F (kL_law L xs) O 657 [a0, a1, a2, a3] (st) h = e_F (kL_law L xs) O 658 [a0, a1, a2, a3] (.int 3 :: st) h := e_F_op rfl rfl
theorem zL_law_658 {L : Nat} {xs : Nat → Int32} {O : e_O} {a0 a1 a2 a3 : Value} {st : List Value} {h : e_H} {y : Int32} {x : Int32} : e_F (kL_law L xs) O 658 [a0, a1, a2, a3] (.int y :: .int x :: st) h = e_F (kL_law L xs) O 659 [a0, a1, a2, a3] (.int (x + y) :: st) h := e_F_op rfl rfl
theorem zL_law_659 {L : Nat} {xs : Nat → Int32} {O : e_O} {a0 a1 a2 a3 : Value} {st : List Value} {h : e_H} {i : Int32} : e_F (kL_law L xs) O 659 [a0, a1, a2, a3] (.int i :: .retAddr 0 :: st) h = if e_inb i L = true then e_F (kL_law L xs) O 660 [a0, a1, a2, a3] (.int (xs i.toNatClampNeg) :: st) h else none := f_sld rfl
theorem zL_law_660 {L : Nat} {xs : Nat → Int32} {O : e_O} {a0 a1 a2 a3 : Value} {st : List Value} {h : e_H} {v0 : Int32} {v1 : Int32} {v2 : Int32} : e_F (kL_law L xs) O 660 [a0, a1, a2, a3] (.int v2 :: .int v1 :: .int v0 :: .ref 0 :: st) h = if e_cats st ≤ 8 then (O 47 [.ref 0, .int v0, .int v1, .int v2] h).bind (fun q => e_F (kL_law L xs) O 663 [a0, a1, a2, a3] (q.1.toList ++ st) q.2) else none := f_cV rfl rfl rfl rfl
theorem zL_law_663 {L : Nat} {xs : Nat → Int32} {O : e_O} {a0 a1 a3 : Value} {st : List Value} {h : e_H} {x : Nat} : e_F (kL_law L xs) O 663 [a0, a1, .ref x, a3] (st) h = e_F (kL_law L xs) O 664 [a0, a1, .ref x, a3] (.ref x :: st) h := e_F_op rfl rfl
theorem zL_law_664 {L : Nat} {xs : Nat → Int32} {O : e_O} {a1 a2 a3 : Value} {st : List Value} {h : e_H} {x : Nat} : e_F (kL_law L xs) O 664 [.retAddr x, a1, a2, a3] (st) h = e_F (kL_law L xs) O 665 [.retAddr x, a1, a2, a3] (.retAddr x :: st) h := e_F_op rfl rfl
theorem zL_law_665 {L : Nat} {xs : Nat → Int32} {O : e_O} {a0 a1 a2 : Value} {st : List Value} {h : e_H} {x : Int32} : e_F (kL_law L xs) O 665 [a0, a1, a2, .int x] (st) h = e_F (kL_law L xs) O 666 [a0, a1, a2, .int x] (.int x :: st) h := e_F_op rfl rfl
theorem zL_law_666 {L : Nat} {xs : Nat → Int32} {O : e_O} {a0 a1 a2 a3 : Value} {st : List Value} {h : e_H}  : e_F (kL_law L xs) O 666 [a0, a1, a2, a3] (st) h = e_F (kL_law L xs) O 667 [a0, a1, a2, a3] (.int 1 :: st) h := e_F_op rfl rfl
theorem zL_law_667 {L : Nat} {xs : Nat → Int32} {O : e_O} {a0 a1 a2 a3 : Value} {st : List Value} {h : e_H} {y : Int32} {x : Int32} : e_F (kL_law L xs) O 667 [a0, a1, a2, a3] (.int y :: .int x :: st) h = e_F (kL_law L xs) O 668 [a0, a1, a2, a3] (.int (x + y) :: st) h := e_F_op rfl rfl
theorem zL_law_668 {L : Nat} {xs : Nat → Int32} {O : e_O} {a0 a1 a2 a3 : Value} {st : List Value} {h : e_H} {i : Int32} : e_F (kL_law L xs) O 668 [a0, a1, a2, a3] (.int i :: .retAddr 0 :: st) h = if e_inb i L = true then e_F (kL_law L xs) O 669 [a0, a1, a2, a3] (.int (xs i.toNatClampNeg) :: st) h else none := f_sld rfl
theorem zL_law_669 {L : Nat} {xs : Nat → Int32} {O : e_O} {a1 a2 a3 : Value} {st : List Value} {h : e_H} {x : Nat} : e_F (kL_law L xs) O 669 [.retAddr x, a1, a2, a3] (st) h = e_F (kL_law L xs) O 670 [.retAddr x, a1, a2, a3] (.retAddr x :: st) h := e_F_op rfl rfl
theorem zL_law_670 {L : Nat} {xs : Nat → Int32} {O : e_O} {a0 a1 a2 : Value} {st : List Value} {h : e_H} {x : Int32} : e_F (kL_law L xs) O 670 [a0, a1, a2, .int x] (st) h = e_F (kL_law L xs) O 671 [a0, a1, a2, .int x] (.int x :: st) h := e_F_op rfl rfl
theorem zL_law_671 {L : Nat} {xs : Nat → Int32} {O : e_O} {a0 a1 a2 a3 : Value} {st : List Value} {h : e_H}  : e_F (kL_law L xs) O 671 [a0, a1, a2, a3] (st) h = e_F (kL_law L xs) O 672 [a0, a1, a2, a3] (.int 2 :: st) h := e_F_op rfl rfl
theorem zL_law_672 {L : Nat} {xs : Nat → Int32} {O : e_O} {a0 a1 a2 a3 : Value} {st : List Value} {h : e_H} {y : Int32} {x : Int32} : e_F (kL_law L xs) O 672 [a0, a1, a2, a3] (.int y :: .int x :: st) h = e_F (kL_law L xs) O 673 [a0, a1, a2, a3] (.int (x + y) :: st) h := e_F_op rfl rfl
theorem zL_law_673 {L : Nat} {xs : Nat → Int32} {O : e_O} {a0 a1 a2 a3 : Value} {st : List Value} {h : e_H} {i : Int32} : e_F (kL_law L xs) O 673 [a0, a1, a2, a3] (.int i :: .retAddr 0 :: st) h = if e_inb i L = true then e_F (kL_law L xs) O 674 [a0, a1, a2, a3] (.int (xs i.toNatClampNeg) :: st) h else none := f_sld rfl
theorem zL_law_674 {L : Nat} {xs : Nat → Int32} {O : e_O} {a1 a2 a3 : Value} {st : List Value} {h : e_H} {x : Nat} : e_F (kL_law L xs) O 674 [.retAddr x, a1, a2, a3] (st) h = e_F (kL_law L xs) O 675 [.retAddr x, a1, a2, a3] (.retAddr x :: st) h := e_F_op rfl rfl
theorem zL_law_675 {L : Nat} {xs : Nat → Int32} {O : e_O} {a0 a1 a2 : Value} {st : List Value} {h : e_H} {x : Int32} : e_F (kL_law L xs) O 675 [a0, a1, a2, .int x] (st) h = e_F (kL_law L xs) O 676 [a0, a1, a2, .int x] (.int x :: st) h := e_F_op rfl rfl
theorem zL_law_676 {L : Nat} {xs : Nat → Int32} {O : e_O} {a0 a1 a2 a3 : Value} {st : List Value} {h : e_H}  : e_F (kL_law L xs) O 676 [a0, a1, a2, a3] (st) h = e_F (kL_law L xs) O 677 [a0, a1, a2, a3] (.int 3 :: st) h := e_F_op rfl rfl
theorem zL_law_677 {L : Nat} {xs : Nat → Int32} {O : e_O} {a0 a1 a2 a3 : Value} {st : List Value} {h : e_H} {y : Int32} {x : Int32} : e_F (kL_law L xs) O 677 [a0, a1, a2, a3] (.int y :: .int x :: st) h = e_F (kL_law L xs) O 678 [a0, a1, a2, a3] (.int (x + y) :: st) h := e_F_op rfl rfl
theorem zL_law_678 {L : Nat} {xs : Nat → Int32} {O : e_O} {a0 a1 a2 a3 : Value} {st : List Value} {h : e_H} {i : Int32} : e_F (kL_law L xs) O 678 [a0, a1, a2, a3] (.int i :: .retAddr 0 :: st) h = if e_inb i L = true then e_F (kL_law L xs) O 679 [a0, a1, a2, a3] (.int (xs i.toNatClampNeg) :: st) h else none := f_sld rfl
theorem zL_law_679 {L : Nat} {xs : Nat → Int32} {O : e_O} {a0 a1 a2 a3 : Value} {st : List Value} {h : e_H} {v0 : Int32} {v1 : Int32} {v2 : Int32} : e_F (kL_law L xs) O 679 [a0, a1, a2, a3] (.int v2 :: .int v1 :: .int v0 :: .ref 40 :: st) h = if e_cats st ≤ 8 then (O 136 [.ref 40, .int v0, .int v1, .int v2] h).bind (fun q => e_F (kL_law L xs) O 682 [a0, a1, a2, a3] (q.1.toList ++ st) q.2) else none := f_cV rfl rfl rfl rfl
theorem zL_law_682 {L : Nat} {xs : Nat → Int32} {O : e_O} {a0 a1 a2 a3 : Value} {st : List Value} {h : e_H} {y : Int32} {x : Int32} : e_F (kL_law L xs) O 682 [a0, a1, a2, a3] (.int y :: .int x :: st) h = if x = y then e_F (kL_law L xs) O 1009 [a0, a1, a2, a3] (st) h else e_F (kL_law L xs) O 685 [a0, a1, a2, a3] (st) h := f_ic (P := fun x y => x = y) rfl
theorem zL_law_685 {L : Nat} {xs : Nat → Int32} {O : e_O} {a0 a1 a2 a3 : Value} {st : List Value} {h : e_H}  : e_F (kL_law L xs) O 685 [a0, a1, a2, a3] (st) h = e_F (kL_law L xs) O 686 [a0, a1, a2, a3] (.int 0 :: st) h := e_F_op rfl rfl
theorem zL_law_686 {L : Nat} {xs : Nat → Int32} {O : e_O} {a0 a1 a2 a3 : Value}  {h : e_H} {x : Int32} : e_F (kL_law L xs) O 686 [a0, a1, a2, a3] ([.int x]) h = if x = 0 ∨ x = 1 then some (some (.int x), h) else none := f_retZ rfl
theorem zL_law_687 {L : Nat} {xs : Nat → Int32} {O : e_O} {a0 a2 a3 : Value} {st : List Value} {h : e_H} {x : Nat} : e_F (kL_law L xs) O 687 [a0, .ref x, a2, a3] (st) h = e_F (kL_law L xs) O 688 [a0, .ref x, a2, a3] (.ref x :: st) h := e_F_op rfl rfl
theorem zL_law_688 {L : Nat} {xs : Nat → Int32} {O : e_O} {a1 a2 a3 : Value} {st : List Value} {h : e_H} {x : Nat} : e_F (kL_law L xs) O 688 [.retAddr x, a1, a2, a3] (st) h = e_F (kL_law L xs) O 689 [.retAddr x, a1, a2, a3] (.retAddr x :: st) h := e_F_op rfl rfl
theorem zL_law_689 {L : Nat} {xs : Nat → Int32} {O : e_O} {a0 a1 a2 : Value} {st : List Value} {h : e_H} {x : Int32} : e_F (kL_law L xs) O 689 [a0, a1, a2, .int x] (st) h = e_F (kL_law L xs) O 690 [a0, a1, a2, .int x] (.int x :: st) h := e_F_op rfl rfl
theorem zL_law_690 {L : Nat} {xs : Nat → Int32} {O : e_O} {a0 a1 a2 a3 : Value} {st : List Value} {h : e_H}  : e_F (kL_law L xs) O 690 [a0, a1, a2, a3] (st) h = e_F (kL_law L xs) O 691 [a0, a1, a2, a3] (.int 1 :: st) h := e_F_op rfl rfl
theorem zL_law_691 {L : Nat} {xs : Nat → Int32} {O : e_O} {a0 a1 a2 a3 : Value} {st : List Value} {h : e_H} {y : Int32} {x : Int32} : e_F (kL_law L xs) O 691 [a0, a1, a2, a3] (.int y :: .int x :: st) h = e_F (kL_law L xs) O 692 [a0, a1, a2, a3] (.int (x + y) :: st) h := e_F_op rfl rfl
theorem zL_law_692 {L : Nat} {xs : Nat → Int32} {O : e_O} {a0 a1 a2 a3 : Value} {st : List Value} {h : e_H} {i : Int32} : e_F (kL_law L xs) O 692 [a0, a1, a2, a3] (.int i :: .retAddr 0 :: st) h = if e_inb i L = true then e_F (kL_law L xs) O 693 [a0, a1, a2, a3] (.int (xs i.toNatClampNeg) :: st) h else none := f_sld rfl
theorem zL_law_693 {L : Nat} {xs : Nat → Int32} {O : e_O} {a0 a1 a2 a3 : Value} {st : List Value} {h : e_H} {v0 : Int32} : e_F (kL_law L xs) O 693 [a0, a1, a2, a3] (.int v0 :: .ref 0 :: st) h = if e_cats st ≤ 8 then (O 48 [.ref 0, .int v0] h).bind (fun q => e_F (kL_law L xs) O 696 [a0, a1, a2, a3] (q.1.toList ++ st) q.2) else none := f_cV rfl rfl rfl rfl
theorem zL_law_696 {L : Nat} {xs : Nat → Int32} {O : e_O} {a0 a1 a3 : Value} {st : List Value} {h : e_H} {x : Nat} : e_F (kL_law L xs) O 696 [a0, a1, .ref x, a3] (st) h = e_F (kL_law L xs) O 697 [a0, a1, .ref x, a3] (.ref x :: st) h := e_F_op rfl rfl
theorem zL_law_697 {L : Nat} {xs : Nat → Int32} {O : e_O} {a1 a2 a3 : Value} {st : List Value} {h : e_H} {x : Nat} : e_F (kL_law L xs) O 697 [.retAddr x, a1, a2, a3] (st) h = e_F (kL_law L xs) O 698 [.retAddr x, a1, a2, a3] (.retAddr x :: st) h := e_F_op rfl rfl
theorem zL_law_698 {L : Nat} {xs : Nat → Int32} {O : e_O} {a0 a1 a2 : Value} {st : List Value} {h : e_H} {x : Int32} : e_F (kL_law L xs) O 698 [a0, a1, a2, .int x] (st) h = e_F (kL_law L xs) O 699 [a0, a1, a2, .int x] (.int x :: st) h := e_F_op rfl rfl
theorem zL_law_699 {L : Nat} {xs : Nat → Int32} {O : e_O} {a0 a1 a2 a3 : Value} {st : List Value} {h : e_H}  : e_F (kL_law L xs) O 699 [a0, a1, a2, a3] (st) h = e_F (kL_law L xs) O 700 [a0, a1, a2, a3] (.int 1 :: st) h := e_F_op rfl rfl
theorem zL_law_700 {L : Nat} {xs : Nat → Int32} {O : e_O} {a0 a1 a2 a3 : Value} {st : List Value} {h : e_H} {y : Int32} {x : Int32} : e_F (kL_law L xs) O 700 [a0, a1, a2, a3] (.int y :: .int x :: st) h = e_F (kL_law L xs) O 701 [a0, a1, a2, a3] (.int (x + y) :: st) h := e_F_op rfl rfl
theorem zL_law_701 {L : Nat} {xs : Nat → Int32} {O : e_O} {a0 a1 a2 a3 : Value} {st : List Value} {h : e_H} {i : Int32} : e_F (kL_law L xs) O 701 [a0, a1, a2, a3] (.int i :: .retAddr 0 :: st) h = if e_inb i L = true then e_F (kL_law L xs) O 702 [a0, a1, a2, a3] (.int (xs i.toNatClampNeg) :: st) h else none := f_sld rfl
theorem zL_law_702 {L : Nat} {xs : Nat → Int32} {O : e_O} {a0 a1 a2 a3 : Value} {st : List Value} {h : e_H} {v0 : Int32} : e_F (kL_law L xs) O 702 [a0, a1, a2, a3] (.int v0 :: .ref 40 :: st) h = if e_cats st ≤ 8 then (O 137 [.ref 40, .int v0] h).bind (fun q => e_F (kL_law L xs) O 705 [a0, a1, a2, a3] (q.1.toList ++ st) q.2) else none := f_cV rfl rfl rfl rfl
theorem zL_law_705 {L : Nat} {xs : Nat → Int32} {O : e_O} {a0 a1 a2 a3 : Value} {st : List Value} {h : e_H} {y : Int32} {x : Int32} : e_F (kL_law L xs) O 705 [a0, a1, a2, a3] (.int y :: .int x :: st) h = if x = y then e_F (kL_law L xs) O 1009 [a0, a1, a2, a3] (st) h else e_F (kL_law L xs) O 708 [a0, a1, a2, a3] (st) h := f_ic (P := fun x y => x = y) rfl
theorem zL_law_708 {L : Nat} {xs : Nat → Int32} {O : e_O} {a0 a1 a2 a3 : Value} {st : List Value} {h : e_H}  : e_F (kL_law L xs) O 708 [a0, a1, a2, a3] (st) h = e_F (kL_law L xs) O 709 [a0, a1, a2, a3] (.int 0 :: st) h := e_F_op rfl rfl
theorem zL_law_709 {L : Nat} {xs : Nat → Int32} {O : e_O} {a0 a1 a2 a3 : Value}  {h : e_H} {x : Int32} : e_F (kL_law L xs) O 709 [a0, a1, a2, a3] ([.int x]) h = if x = 0 ∨ x = 1 then some (some (.int x), h) else none := f_retZ rfl
theorem zL_law_710 {L : Nat} {xs : Nat → Int32} {O : e_O} {a0 a2 a3 : Value} {st : List Value} {h : e_H} {x : Nat} : e_F (kL_law L xs) O 710 [a0, .ref x, a2, a3] (st) h = e_F (kL_law L xs) O 711 [a0, .ref x, a2, a3] (.ref x :: st) h := e_F_op rfl rfl
theorem zL_law_711 {L : Nat} {xs : Nat → Int32} {O : e_O} {a1 a2 a3 : Value} {st : List Value} {h : e_H} {x : Nat} : e_F (kL_law L xs) O 711 [.retAddr x, a1, a2, a3] (st) h = e_F (kL_law L xs) O 712 [.retAddr x, a1, a2, a3] (.retAddr x :: st) h := e_F_op rfl rfl
theorem zL_law_712 {L : Nat} {xs : Nat → Int32} {O : e_O} {a0 a1 a2 : Value} {st : List Value} {h : e_H} {x : Int32} : e_F (kL_law L xs) O 712 [a0, a1, a2, .int x] (st) h = e_F (kL_law L xs) O 713 [a0, a1, a2, .int x] (.int x :: st) h := e_F_op rfl rfl
theorem zL_law_713 {L : Nat} {xs : Nat → Int32} {O : e_O} {a0 a1 a2 a3 : Value} {st : List Value} {h : e_H}  : e_F (kL_law L xs) O 713 [a0, a1, a2, a3] (st) h = e_F (kL_law L xs) O 714 [a0, a1, a2, a3] (.int 1 :: st) h := e_F_op rfl rfl
theorem zL_law_714 {L : Nat} {xs : Nat → Int32} {O : e_O} {a0 a1 a2 a3 : Value} {st : List Value} {h : e_H} {y : Int32} {x : Int32} : e_F (kL_law L xs) O 714 [a0, a1, a2, a3] (.int y :: .int x :: st) h = e_F (kL_law L xs) O 715 [a0, a1, a2, a3] (.int (x + y) :: st) h := e_F_op rfl rfl
theorem zL_law_715 {L : Nat} {xs : Nat → Int32} {O : e_O} {a0 a1 a2 a3 : Value} {st : List Value} {h : e_H} {i : Int32} : e_F (kL_law L xs) O 715 [a0, a1, a2, a3] (.int i :: .retAddr 0 :: st) h = if e_inb i L = true then e_F (kL_law L xs) O 716 [a0, a1, a2, a3] (.int (xs i.toNatClampNeg) :: st) h else none := f_sld rfl
theorem zL_law_716 {L : Nat} {xs : Nat → Int32} {O : e_O} {a1 a2 a3 : Value} {st : List Value} {h : e_H} {x : Nat} : e_F (kL_law L xs) O 716 [.retAddr x, a1, a2, a3] (st) h = e_F (kL_law L xs) O 717 [.retAddr x, a1, a2, a3] (.retAddr x :: st) h := e_F_op rfl rfl
theorem zL_law_717 {L : Nat} {xs : Nat → Int32} {O : e_O} {a0 a1 a2 : Value} {st : List Value} {h : e_H} {x : Int32} : e_F (kL_law L xs) O 717 [a0, a1, a2, .int x] (st) h = e_F (kL_law L xs) O 718 [a0, a1, a2, .int x] (.int x :: st) h := e_F_op rfl rfl
theorem zL_law_718 {L : Nat} {xs : Nat → Int32} {O : e_O} {a0 a1 a2 a3 : Value} {st : List Value} {h : e_H}  : e_F (kL_law L xs) O 718 [a0, a1, a2, a3] (st) h = e_F (kL_law L xs) O 719 [a0, a1, a2, a3] (.int 2 :: st) h := e_F_op rfl rfl
theorem zL_law_719 {L : Nat} {xs : Nat → Int32} {O : e_O} {a0 a1 a2 a3 : Value} {st : List Value} {h : e_H} {y : Int32} {x : Int32} : e_F (kL_law L xs) O 719 [a0, a1, a2, a3] (.int y :: .int x :: st) h = e_F (kL_law L xs) O 720 [a0, a1, a2, a3] (.int (x + y) :: st) h := e_F_op rfl rfl
theorem zL_law_720 {L : Nat} {xs : Nat → Int32} {O : e_O} {a0 a1 a2 a3 : Value} {st : List Value} {h : e_H} {i : Int32} : e_F (kL_law L xs) O 720 [a0, a1, a2, a3] (.int i :: .retAddr 0 :: st) h = if e_inb i L = true then e_F (kL_law L xs) O 721 [a0, a1, a2, a3] (.int (xs i.toNatClampNeg) :: st) h else none := f_sld rfl
theorem zL_law_721 {L : Nat} {xs : Nat → Int32} {O : e_O} {a1 a2 a3 : Value} {st : List Value} {h : e_H} {x : Nat} : e_F (kL_law L xs) O 721 [.retAddr x, a1, a2, a3] (st) h = e_F (kL_law L xs) O 722 [.retAddr x, a1, a2, a3] (.retAddr x :: st) h := e_F_op rfl rfl
theorem zL_law_722 {L : Nat} {xs : Nat → Int32} {O : e_O} {a0 a1 a2 : Value} {st : List Value} {h : e_H} {x : Int32} : e_F (kL_law L xs) O 722 [a0, a1, a2, .int x] (st) h = e_F (kL_law L xs) O 723 [a0, a1, a2, .int x] (.int x :: st) h := e_F_op rfl rfl
theorem zL_law_723 {L : Nat} {xs : Nat → Int32} {O : e_O} {a0 a1 a2 a3 : Value} {st : List Value} {h : e_H}  : e_F (kL_law L xs) O 723 [a0, a1, a2, a3] (st) h = e_F (kL_law L xs) O 724 [a0, a1, a2, a3] (.int 3 :: st) h := e_F_op rfl rfl
theorem zL_law_724 {L : Nat} {xs : Nat → Int32} {O : e_O} {a0 a1 a2 a3 : Value} {st : List Value} {h : e_H} {y : Int32} {x : Int32} : e_F (kL_law L xs) O 724 [a0, a1, a2, a3] (.int y :: .int x :: st) h = e_F (kL_law L xs) O 725 [a0, a1, a2, a3] (.int (x + y) :: st) h := e_F_op rfl rfl
theorem zL_law_725 {L : Nat} {xs : Nat → Int32} {O : e_O} {a0 a1 a2 a3 : Value} {st : List Value} {h : e_H} {i : Int32} : e_F (kL_law L xs) O 725 [a0, a1, a2, a3] (.int i :: .retAddr 0 :: st) h = if e_inb i L = true then e_F (kL_law L xs) O 726 [a0, a1, a2, a3] (.int (xs i.toNatClampNeg) :: st) h else none := f_sld rfl
theorem zL_law_726 {L : Nat} {xs : Nat → Int32} {O : e_O} {a0 a1 a2 a3 : Value} {st : List Value} {h : e_H} {v0 : Int32} {v1 : Int32} {v2 : Int32} : e_F (kL_law L xs) O 726 [a0, a1, a2, a3] (.int v2 :: .int v1 :: .int v0 :: .ref 0 :: st) h = if e_cats st ≤ 8 then (O 49 [.ref 0, .int v0, .int v1, .int v2] h).bind (fun q => e_F (kL_law L xs) O 729 [a0, a1, a2, a3] (q.1.toList ++ st) q.2) else none := f_cV rfl rfl rfl rfl
theorem zL_law_729 {L : Nat} {xs : Nat → Int32} {O : e_O} {a0 a1 a3 : Value} {st : List Value} {h : e_H} {x : Nat} : e_F (kL_law L xs) O 729 [a0, a1, .ref x, a3] (st) h = e_F (kL_law L xs) O 730 [a0, a1, .ref x, a3] (.ref x :: st) h := e_F_op rfl rfl
theorem zL_law_730 {L : Nat} {xs : Nat → Int32} {O : e_O} {a1 a2 a3 : Value} {st : List Value} {h : e_H} {x : Nat} : e_F (kL_law L xs) O 730 [.retAddr x, a1, a2, a3] (st) h = e_F (kL_law L xs) O 731 [.retAddr x, a1, a2, a3] (.retAddr x :: st) h := e_F_op rfl rfl
theorem zL_law_731 {L : Nat} {xs : Nat → Int32} {O : e_O} {a0 a1 a2 : Value} {st : List Value} {h : e_H} {x : Int32} : e_F (kL_law L xs) O 731 [a0, a1, a2, .int x] (st) h = e_F (kL_law L xs) O 732 [a0, a1, a2, .int x] (.int x :: st) h := e_F_op rfl rfl
theorem zL_law_732 {L : Nat} {xs : Nat → Int32} {O : e_O} {a0 a1 a2 a3 : Value} {st : List Value} {h : e_H}  : e_F (kL_law L xs) O 732 [a0, a1, a2, a3] (st) h = e_F (kL_law L xs) O 733 [a0, a1, a2, a3] (.int 1 :: st) h := e_F_op rfl rfl
theorem zL_law_733 {L : Nat} {xs : Nat → Int32} {O : e_O} {a0 a1 a2 a3 : Value} {st : List Value} {h : e_H} {y : Int32} {x : Int32} : e_F (kL_law L xs) O 733 [a0, a1, a2, a3] (.int y :: .int x :: st) h = e_F (kL_law L xs) O 734 [a0, a1, a2, a3] (.int (x + y) :: st) h := e_F_op rfl rfl
theorem zL_law_734 {L : Nat} {xs : Nat → Int32} {O : e_O} {a0 a1 a2 a3 : Value} {st : List Value} {h : e_H} {i : Int32} : e_F (kL_law L xs) O 734 [a0, a1, a2, a3] (.int i :: .retAddr 0 :: st) h = if e_inb i L = true then e_F (kL_law L xs) O 735 [a0, a1, a2, a3] (.int (xs i.toNatClampNeg) :: st) h else none := f_sld rfl
theorem zL_law_735 {L : Nat} {xs : Nat → Int32} {O : e_O} {a1 a2 a3 : Value} {st : List Value} {h : e_H} {x : Nat} : e_F (kL_law L xs) O 735 [.retAddr x, a1, a2, a3] (st) h = e_F (kL_law L xs) O 736 [.retAddr x, a1, a2, a3] (.retAddr x :: st) h := e_F_op rfl rfl
theorem zL_law_736 {L : Nat} {xs : Nat → Int32} {O : e_O} {a0 a1 a2 : Value} {st : List Value} {h : e_H} {x : Int32} : e_F (kL_law L xs) O 736 [a0, a1, a2, .int x] (st) h = e_F (kL_law L xs) O 737 [a0, a1, a2, .int x] (.int x :: st) h := e_F_op rfl rfl
theorem zL_law_737 {L : Nat} {xs : Nat → Int32} {O : e_O} {a0 a1 a2 a3 : Value} {st : List Value} {h : e_H}  : e_F (kL_law L xs) O 737 [a0, a1, a2, a3] (st) h = e_F (kL_law L xs) O 738 [a0, a1, a2, a3] (.int 2 :: st) h := e_F_op rfl rfl
theorem zL_law_738 {L : Nat} {xs : Nat → Int32} {O : e_O} {a0 a1 a2 a3 : Value} {st : List Value} {h : e_H} {y : Int32} {x : Int32} : e_F (kL_law L xs) O 738 [a0, a1, a2, a3] (.int y :: .int x :: st) h = e_F (kL_law L xs) O 739 [a0, a1, a2, a3] (.int (x + y) :: st) h := e_F_op rfl rfl
theorem zL_law_739 {L : Nat} {xs : Nat → Int32} {O : e_O} {a0 a1 a2 a3 : Value} {st : List Value} {h : e_H} {i : Int32} : e_F (kL_law L xs) O 739 [a0, a1, a2, a3] (.int i :: .retAddr 0 :: st) h = if e_inb i L = true then e_F (kL_law L xs) O 740 [a0, a1, a2, a3] (.int (xs i.toNatClampNeg) :: st) h else none := f_sld rfl
theorem zL_law_740 {L : Nat} {xs : Nat → Int32} {O : e_O} {a1 a2 a3 : Value} {st : List Value} {h : e_H} {x : Nat} : e_F (kL_law L xs) O 740 [.retAddr x, a1, a2, a3] (st) h = e_F (kL_law L xs) O 741 [.retAddr x, a1, a2, a3] (.retAddr x :: st) h := e_F_op rfl rfl
theorem zL_law_741 {L : Nat} {xs : Nat → Int32} {O : e_O} {a0 a1 a2 : Value} {st : List Value} {h : e_H} {x : Int32} : e_F (kL_law L xs) O 741 [a0, a1, a2, .int x] (st) h = e_F (kL_law L xs) O 742 [a0, a1, a2, .int x] (.int x :: st) h := e_F_op rfl rfl
theorem zL_law_742 {L : Nat} {xs : Nat → Int32} {O : e_O} {a0 a1 a2 a3 : Value} {st : List Value} {h : e_H}  : e_F (kL_law L xs) O 742 [a0, a1, a2, a3] (st) h = e_F (kL_law L xs) O 743 [a0, a1, a2, a3] (.int 3 :: st) h := e_F_op rfl rfl
theorem zL_law_743 {L : Nat} {xs : Nat → Int32} {O : e_O} {a0 a1 a2 a3 : Value} {st : List Value} {h : e_H} {y : Int32} {x : Int32} : e_F (kL_law L xs) O 743 [a0, a1, a2, a3] (.int y :: .int x :: st) h = e_F (kL_law L xs) O 744 [a0, a1, a2, a3] (.int (x + y) :: st) h := e_F_op rfl rfl
theorem zL_law_744 {L : Nat} {xs : Nat → Int32} {O : e_O} {a0 a1 a2 a3 : Value} {st : List Value} {h : e_H} {i : Int32} : e_F (kL_law L xs) O 744 [a0, a1, a2, a3] (.int i :: .retAddr 0 :: st) h = if e_inb i L = true then e_F (kL_law L xs) O 745 [a0, a1, a2, a3] (.int (xs i.toNatClampNeg) :: st) h else none := f_sld rfl
theorem zL_law_745 {L : Nat} {xs : Nat → Int32} {O : e_O} {a0 a1 a2 a3 : Value} {st : List Value} {h : e_H} {v0 : Int32} {v1 : Int32} {v2 : Int32} : e_F (kL_law L xs) O 745 [a0, a1, a2, a3] (.int v2 :: .int v1 :: .int v0 :: .ref 40 :: st) h = if e_cats st ≤ 8 then (O 138 [.ref 40, .int v0, .int v1, .int v2] h).bind (fun q => e_F (kL_law L xs) O 748 [a0, a1, a2, a3] (q.1.toList ++ st) q.2) else none := f_cV rfl rfl rfl rfl
theorem zL_law_748 {L : Nat} {xs : Nat → Int32} {O : e_O} {a0 a1 a2 a3 : Value} {st : List Value} {h : e_H} {y : Int32} {x : Int32} : e_F (kL_law L xs) O 748 [a0, a1, a2, a3] (.int y :: .int x :: st) h = if x = y then e_F (kL_law L xs) O 1009 [a0, a1, a2, a3] (st) h else e_F (kL_law L xs) O 751 [a0, a1, a2, a3] (st) h := f_ic (P := fun x y => x = y) rfl
theorem zL_law_751 {L : Nat} {xs : Nat → Int32} {O : e_O} {a0 a1 a2 a3 : Value} {st : List Value} {h : e_H}  : e_F (kL_law L xs) O 751 [a0, a1, a2, a3] (st) h = e_F (kL_law L xs) O 752 [a0, a1, a2, a3] (.int 0 :: st) h := e_F_op rfl rfl
theorem zL_law_752 {L : Nat} {xs : Nat → Int32} {O : e_O} {a0 a1 a2 a3 : Value}  {h : e_H} {x : Int32} : e_F (kL_law L xs) O 752 [a0, a1, a2, a3] ([.int x]) h = if x = 0 ∨ x = 1 then some (some (.int x), h) else none := f_retZ rfl
theorem zL_law_753 {L : Nat} {xs : Nat → Int32} {O : e_O} {a0 a2 a3 : Value} {st : List Value} {h : e_H} {x : Nat} : e_F (kL_law L xs) O 753 [a0, .ref x, a2, a3] (st) h = e_F (kL_law L xs) O 754 [a0, .ref x, a2, a3] (.ref x :: st) h := e_F_op rfl rfl
theorem zL_law_754 {L : Nat} {xs : Nat → Int32} {O : e_O} {a1 a2 a3 : Value} {st : List Value} {h : e_H} {x : Nat} : e_F (kL_law L xs) O 754 [.retAddr x, a1, a2, a3] (st) h = e_F (kL_law L xs) O 755 [.retAddr x, a1, a2, a3] (.retAddr x :: st) h := e_F_op rfl rfl
theorem zL_law_755 {L : Nat} {xs : Nat → Int32} {O : e_O} {a0 a1 a2 : Value} {st : List Value} {h : e_H} {x : Int32} : e_F (kL_law L xs) O 755 [a0, a1, a2, .int x] (st) h = e_F (kL_law L xs) O 756 [a0, a1, a2, .int x] (.int x :: st) h := e_F_op rfl rfl
theorem zL_law_756 {L : Nat} {xs : Nat → Int32} {O : e_O} {a0 a1 a2 a3 : Value} {st : List Value} {h : e_H}  : e_F (kL_law L xs) O 756 [a0, a1, a2, a3] (st) h = e_F (kL_law L xs) O 757 [a0, a1, a2, a3] (.int 1 :: st) h := e_F_op rfl rfl
theorem zL_law_757 {L : Nat} {xs : Nat → Int32} {O : e_O} {a0 a1 a2 a3 : Value} {st : List Value} {h : e_H} {y : Int32} {x : Int32} : e_F (kL_law L xs) O 757 [a0, a1, a2, a3] (.int y :: .int x :: st) h = e_F (kL_law L xs) O 758 [a0, a1, a2, a3] (.int (x + y) :: st) h := e_F_op rfl rfl
theorem zL_law_758 {L : Nat} {xs : Nat → Int32} {O : e_O} {a0 a1 a2 a3 : Value} {st : List Value} {h : e_H} {i : Int32} : e_F (kL_law L xs) O 758 [a0, a1, a2, a3] (.int i :: .retAddr 0 :: st) h = if e_inb i L = true then e_F (kL_law L xs) O 759 [a0, a1, a2, a3] (.int (xs i.toNatClampNeg) :: st) h else none := f_sld rfl
theorem zL_law_759 {L : Nat} {xs : Nat → Int32} {O : e_O} {a1 a2 a3 : Value} {st : List Value} {h : e_H} {x : Nat} : e_F (kL_law L xs) O 759 [.retAddr x, a1, a2, a3] (st) h = e_F (kL_law L xs) O 760 [.retAddr x, a1, a2, a3] (.retAddr x :: st) h := e_F_op rfl rfl
theorem zL_law_760 {L : Nat} {xs : Nat → Int32} {O : e_O} {a0 a1 a2 : Value} {st : List Value} {h : e_H} {x : Int32} : e_F (kL_law L xs) O 760 [a0, a1, a2, .int x] (st) h = e_F (kL_law L xs) O 761 [a0, a1, a2, .int x] (.int x :: st) h := e_F_op rfl rfl
theorem zL_law_761 {L : Nat} {xs : Nat → Int32} {O : e_O} {a0 a1 a2 a3 : Value} {st : List Value} {h : e_H}  : e_F (kL_law L xs) O 761 [a0, a1, a2, a3] (st) h = e_F (kL_law L xs) O 762 [a0, a1, a2, a3] (.int 2 :: st) h := e_F_op rfl rfl
theorem zL_law_762 {L : Nat} {xs : Nat → Int32} {O : e_O} {a0 a1 a2 a3 : Value} {st : List Value} {h : e_H} {y : Int32} {x : Int32} : e_F (kL_law L xs) O 762 [a0, a1, a2, a3] (.int y :: .int x :: st) h = e_F (kL_law L xs) O 763 [a0, a1, a2, a3] (.int (x + y) :: st) h := e_F_op rfl rfl
theorem zL_law_763 {L : Nat} {xs : Nat → Int32} {O : e_O} {a0 a1 a2 a3 : Value} {st : List Value} {h : e_H} {i : Int32} : e_F (kL_law L xs) O 763 [a0, a1, a2, a3] (.int i :: .retAddr 0 :: st) h = if e_inb i L = true then e_F (kL_law L xs) O 764 [a0, a1, a2, a3] (.int (xs i.toNatClampNeg) :: st) h else none := f_sld rfl
theorem zL_law_764 {L : Nat} {xs : Nat → Int32} {O : e_O} {a1 a2 a3 : Value} {st : List Value} {h : e_H} {x : Nat} : e_F (kL_law L xs) O 764 [.retAddr x, a1, a2, a3] (st) h = e_F (kL_law L xs) O 765 [.retAddr x, a1, a2, a3] (.retAddr x :: st) h := e_F_op rfl rfl
theorem zL_law_765 {L : Nat} {xs : Nat → Int32} {O : e_O} {a0 a1 a2 : Value} {st : List Value} {h : e_H} {x : Int32} : e_F (kL_law L xs) O 765 [a0, a1, a2, .int x] (st) h = e_F (kL_law L xs) O 766 [a0, a1, a2, .int x] (.int x :: st) h := e_F_op rfl rfl
theorem zL_law_766 {L : Nat} {xs : Nat → Int32} {O : e_O} {a0 a1 a2 a3 : Value} {st : List Value} {h : e_H}  : e_F (kL_law L xs) O 766 [a0, a1, a2, a3] (st) h = e_F (kL_law L xs) O 767 [a0, a1, a2, a3] (.int 3 :: st) h := e_F_op rfl rfl
theorem zL_law_767 {L : Nat} {xs : Nat → Int32} {O : e_O} {a0 a1 a2 a3 : Value} {st : List Value} {h : e_H} {y : Int32} {x : Int32} : e_F (kL_law L xs) O 767 [a0, a1, a2, a3] (.int y :: .int x :: st) h = e_F (kL_law L xs) O 768 [a0, a1, a2, a3] (.int (x + y) :: st) h := e_F_op rfl rfl
theorem zL_law_768 {L : Nat} {xs : Nat → Int32} {O : e_O} {a0 a1 a2 a3 : Value} {st : List Value} {h : e_H} {i : Int32} : e_F (kL_law L xs) O 768 [a0, a1, a2, a3] (.int i :: .retAddr 0 :: st) h = if e_inb i L = true then e_F (kL_law L xs) O 769 [a0, a1, a2, a3] (.int (xs i.toNatClampNeg) :: st) h else none := f_sld rfl
theorem zL_law_769 {L : Nat} {xs : Nat → Int32} {O : e_O} {a0 a1 a2 a3 : Value} {st : List Value} {h : e_H} {v0 : Int32} {v1 : Int32} {v2 : Int32} : e_F (kL_law L xs) O 769 [a0, a1, a2, a3] (.int v2 :: .int v1 :: .int v0 :: .ref 0 :: st) h = if e_cats st ≤ 8 then (O 50 [.ref 0, .int v0, .int v1, .int v2] h).bind (fun q => e_F (kL_law L xs) O 772 [a0, a1, a2, a3] (q.1.toList ++ st) q.2) else none := f_cV rfl rfl rfl rfl
theorem zL_law_772 {L : Nat} {xs : Nat → Int32} {O : e_O} {a0 a1 a3 : Value} {st : List Value} {h : e_H} {x : Nat} : e_F (kL_law L xs) O 772 [a0, a1, .ref x, a3] (st) h = e_F (kL_law L xs) O 773 [a0, a1, .ref x, a3] (.ref x :: st) h := e_F_op rfl rfl
theorem zL_law_773 {L : Nat} {xs : Nat → Int32} {O : e_O} {a1 a2 a3 : Value} {st : List Value} {h : e_H} {x : Nat} : e_F (kL_law L xs) O 773 [.retAddr x, a1, a2, a3] (st) h = e_F (kL_law L xs) O 774 [.retAddr x, a1, a2, a3] (.retAddr x :: st) h := e_F_op rfl rfl
theorem zL_law_774 {L : Nat} {xs : Nat → Int32} {O : e_O} {a0 a1 a2 : Value} {st : List Value} {h : e_H} {x : Int32} : e_F (kL_law L xs) O 774 [a0, a1, a2, .int x] (st) h = e_F (kL_law L xs) O 775 [a0, a1, a2, .int x] (.int x :: st) h := e_F_op rfl rfl
theorem zL_law_775 {L : Nat} {xs : Nat → Int32} {O : e_O} {a0 a1 a2 a3 : Value} {st : List Value} {h : e_H}  : e_F (kL_law L xs) O 775 [a0, a1, a2, a3] (st) h = e_F (kL_law L xs) O 776 [a0, a1, a2, a3] (.int 1 :: st) h := e_F_op rfl rfl
theorem zL_law_776 {L : Nat} {xs : Nat → Int32} {O : e_O} {a0 a1 a2 a3 : Value} {st : List Value} {h : e_H} {y : Int32} {x : Int32} : e_F (kL_law L xs) O 776 [a0, a1, a2, a3] (.int y :: .int x :: st) h = e_F (kL_law L xs) O 777 [a0, a1, a2, a3] (.int (x + y) :: st) h := e_F_op rfl rfl
theorem zL_law_777 {L : Nat} {xs : Nat → Int32} {O : e_O} {a0 a1 a2 a3 : Value} {st : List Value} {h : e_H} {i : Int32} : e_F (kL_law L xs) O 777 [a0, a1, a2, a3] (.int i :: .retAddr 0 :: st) h = if e_inb i L = true then e_F (kL_law L xs) O 778 [a0, a1, a2, a3] (.int (xs i.toNatClampNeg) :: st) h else none := f_sld rfl
theorem zL_law_778 {L : Nat} {xs : Nat → Int32} {O : e_O} {a1 a2 a3 : Value} {st : List Value} {h : e_H} {x : Nat} : e_F (kL_law L xs) O 778 [.retAddr x, a1, a2, a3] (st) h = e_F (kL_law L xs) O 779 [.retAddr x, a1, a2, a3] (.retAddr x :: st) h := e_F_op rfl rfl
theorem zL_law_779 {L : Nat} {xs : Nat → Int32} {O : e_O} {a0 a1 a2 : Value} {st : List Value} {h : e_H} {x : Int32} : e_F (kL_law L xs) O 779 [a0, a1, a2, .int x] (st) h = e_F (kL_law L xs) O 780 [a0, a1, a2, .int x] (.int x :: st) h := e_F_op rfl rfl
theorem zL_law_780 {L : Nat} {xs : Nat → Int32} {O : e_O} {a0 a1 a2 a3 : Value} {st : List Value} {h : e_H}  : e_F (kL_law L xs) O 780 [a0, a1, a2, a3] (st) h = e_F (kL_law L xs) O 781 [a0, a1, a2, a3] (.int 2 :: st) h := e_F_op rfl rfl
theorem zL_law_781 {L : Nat} {xs : Nat → Int32} {O : e_O} {a0 a1 a2 a3 : Value} {st : List Value} {h : e_H} {y : Int32} {x : Int32} : e_F (kL_law L xs) O 781 [a0, a1, a2, a3] (.int y :: .int x :: st) h = e_F (kL_law L xs) O 782 [a0, a1, a2, a3] (.int (x + y) :: st) h := e_F_op rfl rfl
theorem zL_law_782 {L : Nat} {xs : Nat → Int32} {O : e_O} {a0 a1 a2 a3 : Value} {st : List Value} {h : e_H} {i : Int32} : e_F (kL_law L xs) O 782 [a0, a1, a2, a3] (.int i :: .retAddr 0 :: st) h = if e_inb i L = true then e_F (kL_law L xs) O 783 [a0, a1, a2, a3] (.int (xs i.toNatClampNeg) :: st) h else none := f_sld rfl
theorem zL_law_783 {L : Nat} {xs : Nat → Int32} {O : e_O} {a1 a2 a3 : Value} {st : List Value} {h : e_H} {x : Nat} : e_F (kL_law L xs) O 783 [.retAddr x, a1, a2, a3] (st) h = e_F (kL_law L xs) O 784 [.retAddr x, a1, a2, a3] (.retAddr x :: st) h := e_F_op rfl rfl
theorem zL_law_784 {L : Nat} {xs : Nat → Int32} {O : e_O} {a0 a1 a2 : Value} {st : List Value} {h : e_H} {x : Int32} : e_F (kL_law L xs) O 784 [a0, a1, a2, .int x] (st) h = e_F (kL_law L xs) O 785 [a0, a1, a2, .int x] (.int x :: st) h := e_F_op rfl rfl
theorem zL_law_785 {L : Nat} {xs : Nat → Int32} {O : e_O} {a0 a1 a2 a3 : Value} {st : List Value} {h : e_H}  : e_F (kL_law L xs) O 785 [a0, a1, a2, a3] (st) h = e_F (kL_law L xs) O 786 [a0, a1, a2, a3] (.int 3 :: st) h := e_F_op rfl rfl
theorem zL_law_786 {L : Nat} {xs : Nat → Int32} {O : e_O} {a0 a1 a2 a3 : Value} {st : List Value} {h : e_H} {y : Int32} {x : Int32} : e_F (kL_law L xs) O 786 [a0, a1, a2, a3] (.int y :: .int x :: st) h = e_F (kL_law L xs) O 787 [a0, a1, a2, a3] (.int (x + y) :: st) h := e_F_op rfl rfl
theorem zL_law_787 {L : Nat} {xs : Nat → Int32} {O : e_O} {a0 a1 a2 a3 : Value} {st : List Value} {h : e_H} {i : Int32} : e_F (kL_law L xs) O 787 [a0, a1, a2, a3] (.int i :: .retAddr 0 :: st) h = if e_inb i L = true then e_F (kL_law L xs) O 788 [a0, a1, a2, a3] (.int (xs i.toNatClampNeg) :: st) h else none := f_sld rfl
theorem zL_law_788 {L : Nat} {xs : Nat → Int32} {O : e_O} {a0 a1 a2 a3 : Value} {st : List Value} {h : e_H} {v0 : Int32} {v1 : Int32} {v2 : Int32} : e_F (kL_law L xs) O 788 [a0, a1, a2, a3] (.int v2 :: .int v1 :: .int v0 :: .ref 40 :: st) h = if e_cats st ≤ 8 then (O 139 [.ref 40, .int v0, .int v1, .int v2] h).bind (fun q => e_F (kL_law L xs) O 791 [a0, a1, a2, a3] (q.1.toList ++ st) q.2) else none := f_cV rfl rfl rfl rfl
theorem zL_law_791 {L : Nat} {xs : Nat → Int32} {O : e_O} {a0 a1 a2 a3 : Value} {st : List Value} {h : e_H} {y : Int32} {x : Int32} : e_F (kL_law L xs) O 791 [a0, a1, a2, a3] (.int y :: .int x :: st) h = if x = y then e_F (kL_law L xs) O 1009 [a0, a1, a2, a3] (st) h else e_F (kL_law L xs) O 794 [a0, a1, a2, a3] (st) h := f_ic (P := fun x y => x = y) rfl
theorem zL_law_794 {L : Nat} {xs : Nat → Int32} {O : e_O} {a0 a1 a2 a3 : Value} {st : List Value} {h : e_H}  : e_F (kL_law L xs) O 794 [a0, a1, a2, a3] (st) h = e_F (kL_law L xs) O 795 [a0, a1, a2, a3] (.int 0 :: st) h := e_F_op rfl rfl
theorem zL_law_795 {L : Nat} {xs : Nat → Int32} {O : e_O} {a0 a1 a2 a3 : Value}  {h : e_H} {x : Int32} : e_F (kL_law L xs) O 795 [a0, a1, a2, a3] ([.int x]) h = if x = 0 ∨ x = 1 then some (some (.int x), h) else none := f_retZ rfl
theorem zL_law_796 {L : Nat} {xs : Nat → Int32} {O : e_O} {a0 a2 a3 : Value} {st : List Value} {h : e_H} {x : Nat} : e_F (kL_law L xs) O 796 [a0, .ref x, a2, a3] (st) h = e_F (kL_law L xs) O 797 [a0, .ref x, a2, a3] (.ref x :: st) h := e_F_op rfl rfl
theorem zL_law_797 {L : Nat} {xs : Nat → Int32} {O : e_O} {a1 a2 a3 : Value} {st : List Value} {h : e_H} {x : Nat} : e_F (kL_law L xs) O 797 [.retAddr x, a1, a2, a3] (st) h = e_F (kL_law L xs) O 798 [.retAddr x, a1, a2, a3] (.retAddr x :: st) h := e_F_op rfl rfl
theorem zL_law_798 {L : Nat} {xs : Nat → Int32} {O : e_O} {a0 a1 a2 : Value} {st : List Value} {h : e_H} {x : Int32} : e_F (kL_law L xs) O 798 [a0, a1, a2, .int x] (st) h = e_F (kL_law L xs) O 799 [a0, a1, a2, .int x] (.int x :: st) h := e_F_op rfl rfl
theorem zL_law_799 {L : Nat} {xs : Nat → Int32} {O : e_O} {a0 a1 a2 a3 : Value} {st : List Value} {h : e_H}  : e_F (kL_law L xs) O 799 [a0, a1, a2, a3] (st) h = e_F (kL_law L xs) O 800 [a0, a1, a2, a3] (.int 1 :: st) h := e_F_op rfl rfl
theorem zL_law_800 {L : Nat} {xs : Nat → Int32} {O : e_O} {a0 a1 a2 a3 : Value} {st : List Value} {h : e_H} {y : Int32} {x : Int32} : e_F (kL_law L xs) O 800 [a0, a1, a2, a3] (.int y :: .int x :: st) h = e_F (kL_law L xs) O 801 [a0, a1, a2, a3] (.int (x + y) :: st) h := e_F_op rfl rfl
theorem zL_law_801 {L : Nat} {xs : Nat → Int32} {O : e_O} {a0 a1 a2 a3 : Value} {st : List Value} {h : e_H} {i : Int32} : e_F (kL_law L xs) O 801 [a0, a1, a2, a3] (.int i :: .retAddr 0 :: st) h = if e_inb i L = true then e_F (kL_law L xs) O 802 [a0, a1, a2, a3] (.int (xs i.toNatClampNeg) :: st) h else none := f_sld rfl
theorem zL_law_802 {L : Nat} {xs : Nat → Int32} {O : e_O} {a1 a2 a3 : Value} {st : List Value} {h : e_H} {x : Nat} : e_F (kL_law L xs) O 802 [.retAddr x, a1, a2, a3] (st) h = e_F (kL_law L xs) O 803 [.retAddr x, a1, a2, a3] (.retAddr x :: st) h := e_F_op rfl rfl
theorem zL_law_803 {L : Nat} {xs : Nat → Int32} {O : e_O} {a0 a1 a2 : Value} {st : List Value} {h : e_H} {x : Int32} : e_F (kL_law L xs) O 803 [a0, a1, a2, .int x] (st) h = e_F (kL_law L xs) O 804 [a0, a1, a2, .int x] (.int x :: st) h := e_F_op rfl rfl
theorem zL_law_804 {L : Nat} {xs : Nat → Int32} {O : e_O} {a0 a1 a2 a3 : Value} {st : List Value} {h : e_H}  : e_F (kL_law L xs) O 804 [a0, a1, a2, a3] (st) h = e_F (kL_law L xs) O 805 [a0, a1, a2, a3] (.int 2 :: st) h := e_F_op rfl rfl
theorem zL_law_805 {L : Nat} {xs : Nat → Int32} {O : e_O} {a0 a1 a2 a3 : Value} {st : List Value} {h : e_H} {y : Int32} {x : Int32} : e_F (kL_law L xs) O 805 [a0, a1, a2, a3] (.int y :: .int x :: st) h = e_F (kL_law L xs) O 806 [a0, a1, a2, a3] (.int (x + y) :: st) h := e_F_op rfl rfl
theorem zL_law_806 {L : Nat} {xs : Nat → Int32} {O : e_O} {a0 a1 a2 a3 : Value} {st : List Value} {h : e_H} {i : Int32} : e_F (kL_law L xs) O 806 [a0, a1, a2, a3] (.int i :: .retAddr 0 :: st) h = if e_inb i L = true then e_F (kL_law L xs) O 807 [a0, a1, a2, a3] (.int (xs i.toNatClampNeg) :: st) h else none := f_sld rfl
theorem zL_law_807 {L : Nat} {xs : Nat → Int32} {O : e_O} {a1 a2 a3 : Value} {st : List Value} {h : e_H} {x : Nat} : e_F (kL_law L xs) O 807 [.retAddr x, a1, a2, a3] (st) h = e_F (kL_law L xs) O 808 [.retAddr x, a1, a2, a3] (.retAddr x :: st) h := e_F_op rfl rfl
theorem zL_law_808 {L : Nat} {xs : Nat → Int32} {O : e_O} {a0 a1 a2 : Value} {st : List Value} {h : e_H} {x : Int32} : e_F (kL_law L xs) O 808 [a0, a1, a2, .int x] (st) h = e_F (kL_law L xs) O 809 [a0, a1, a2, .int x] (.int x :: st) h := e_F_op rfl rfl
theorem zL_law_809 {L : Nat} {xs : Nat → Int32} {O : e_O} {a0 a1 a2 a3 : Value} {st : List Value} {h : e_H}  : e_F (kL_law L xs) O 809 [a0, a1, a2, a3] (st) h = e_F (kL_law L xs) O 810 [a0, a1, a2, a3] (.int 3 :: st) h := e_F_op rfl rfl
theorem zL_law_810 {L : Nat} {xs : Nat → Int32} {O : e_O} {a0 a1 a2 a3 : Value} {st : List Value} {h : e_H} {y : Int32} {x : Int32} : e_F (kL_law L xs) O 810 [a0, a1, a2, a3] (.int y :: .int x :: st) h = e_F (kL_law L xs) O 811 [a0, a1, a2, a3] (.int (x + y) :: st) h := e_F_op rfl rfl
theorem zL_law_811 {L : Nat} {xs : Nat → Int32} {O : e_O} {a0 a1 a2 a3 : Value} {st : List Value} {h : e_H} {i : Int32} : e_F (kL_law L xs) O 811 [a0, a1, a2, a3] (.int i :: .retAddr 0 :: st) h = if e_inb i L = true then e_F (kL_law L xs) O 812 [a0, a1, a2, a3] (.int (xs i.toNatClampNeg) :: st) h else none := f_sld rfl
theorem zL_law_812 {L : Nat} {xs : Nat → Int32} {O : e_O} {a0 a1 a2 a3 : Value} {st : List Value} {h : e_H} {v0 : Int32} {v1 : Int32} {v2 : Int32} : e_F (kL_law L xs) O 812 [a0, a1, a2, a3] (.int v2 :: .int v1 :: .int v0 :: .ref 0 :: st) h = if e_cats st ≤ 8 then (O 51 [.ref 0, .int v0, .int v1, .int v2] h).bind (fun q => e_F (kL_law L xs) O 815 [a0, a1, a2, a3] (q.1.toList ++ st) q.2) else none := f_cV rfl rfl rfl rfl
theorem zL_law_815 {L : Nat} {xs : Nat → Int32} {O : e_O} {a0 a1 a3 : Value} {st : List Value} {h : e_H} {x : Nat} : e_F (kL_law L xs) O 815 [a0, a1, .ref x, a3] (st) h = e_F (kL_law L xs) O 816 [a0, a1, .ref x, a3] (.ref x :: st) h := e_F_op rfl rfl
theorem zL_law_816 {L : Nat} {xs : Nat → Int32} {O : e_O} {a1 a2 a3 : Value} {st : List Value} {h : e_H} {x : Nat} : e_F (kL_law L xs) O 816 [.retAddr x, a1, a2, a3] (st) h = e_F (kL_law L xs) O 817 [.retAddr x, a1, a2, a3] (.retAddr x :: st) h := e_F_op rfl rfl
theorem zL_law_817 {L : Nat} {xs : Nat → Int32} {O : e_O} {a0 a1 a2 : Value} {st : List Value} {h : e_H} {x : Int32} : e_F (kL_law L xs) O 817 [a0, a1, a2, .int x] (st) h = e_F (kL_law L xs) O 818 [a0, a1, a2, .int x] (.int x :: st) h := e_F_op rfl rfl
theorem zL_law_818 {L : Nat} {xs : Nat → Int32} {O : e_O} {a0 a1 a2 a3 : Value} {st : List Value} {h : e_H}  : e_F (kL_law L xs) O 818 [a0, a1, a2, a3] (st) h = e_F (kL_law L xs) O 819 [a0, a1, a2, a3] (.int 1 :: st) h := e_F_op rfl rfl
theorem zL_law_819 {L : Nat} {xs : Nat → Int32} {O : e_O} {a0 a1 a2 a3 : Value} {st : List Value} {h : e_H} {y : Int32} {x : Int32} : e_F (kL_law L xs) O 819 [a0, a1, a2, a3] (.int y :: .int x :: st) h = e_F (kL_law L xs) O 820 [a0, a1, a2, a3] (.int (x + y) :: st) h := e_F_op rfl rfl
theorem zL_law_820 {L : Nat} {xs : Nat → Int32} {O : e_O} {a0 a1 a2 a3 : Value} {st : List Value} {h : e_H} {i : Int32} : e_F (kL_law L xs) O 820 [a0, a1, a2, a3] (.int i :: .retAddr 0 :: st) h = if e_inb i L = true then e_F (kL_law L xs) O 821 [a0, a1, a2, a3] (.int (xs i.toNatClampNeg) :: st) h else none := f_sld rfl
theorem zL_law_821 {L : Nat} {xs : Nat → Int32} {O : e_O} {a1 a2 a3 : Value} {st : List Value} {h : e_H} {x : Nat} : e_F (kL_law L xs) O 821 [.retAddr x, a1, a2, a3] (st) h = e_F (kL_law L xs) O 822 [.retAddr x, a1, a2, a3] (.retAddr x :: st) h := e_F_op rfl rfl
theorem zL_law_822 {L : Nat} {xs : Nat → Int32} {O : e_O} {a0 a1 a2 : Value} {st : List Value} {h : e_H} {x : Int32} : e_F (kL_law L xs) O 822 [a0, a1, a2, .int x] (st) h = e_F (kL_law L xs) O 823 [a0, a1, a2, .int x] (.int x :: st) h := e_F_op rfl rfl
theorem zL_law_823 {L : Nat} {xs : Nat → Int32} {O : e_O} {a0 a1 a2 a3 : Value} {st : List Value} {h : e_H}  : e_F (kL_law L xs) O 823 [a0, a1, a2, a3] (st) h = e_F (kL_law L xs) O 824 [a0, a1, a2, a3] (.int 2 :: st) h := e_F_op rfl rfl
theorem zL_law_824 {L : Nat} {xs : Nat → Int32} {O : e_O} {a0 a1 a2 a3 : Value} {st : List Value} {h : e_H} {y : Int32} {x : Int32} : e_F (kL_law L xs) O 824 [a0, a1, a2, a3] (.int y :: .int x :: st) h = e_F (kL_law L xs) O 825 [a0, a1, a2, a3] (.int (x + y) :: st) h := e_F_op rfl rfl
theorem zL_law_825 {L : Nat} {xs : Nat → Int32} {O : e_O} {a0 a1 a2 a3 : Value} {st : List Value} {h : e_H} {i : Int32} : e_F (kL_law L xs) O 825 [a0, a1, a2, a3] (.int i :: .retAddr 0 :: st) h = if e_inb i L = true then e_F (kL_law L xs) O 826 [a0, a1, a2, a3] (.int (xs i.toNatClampNeg) :: st) h else none := f_sld rfl
theorem zL_law_826 {L : Nat} {xs : Nat → Int32} {O : e_O} {a1 a2 a3 : Value} {st : List Value} {h : e_H} {x : Nat} : e_F (kL_law L xs) O 826 [.retAddr x, a1, a2, a3] (st) h = e_F (kL_law L xs) O 827 [.retAddr x, a1, a2, a3] (.retAddr x :: st) h := e_F_op rfl rfl
theorem zL_law_827 {L : Nat} {xs : Nat → Int32} {O : e_O} {a0 a1 a2 : Value} {st : List Value} {h : e_H} {x : Int32} : e_F (kL_law L xs) O 827 [a0, a1, a2, .int x] (st) h = e_F (kL_law L xs) O 828 [a0, a1, a2, .int x] (.int x :: st) h := e_F_op rfl rfl
theorem zL_law_828 {L : Nat} {xs : Nat → Int32} {O : e_O} {a0 a1 a2 a3 : Value} {st : List Value} {h : e_H}  : e_F (kL_law L xs) O 828 [a0, a1, a2, a3] (st) h = e_F (kL_law L xs) O 829 [a0, a1, a2, a3] (.int 3 :: st) h := e_F_op rfl rfl
theorem zL_law_829 {L : Nat} {xs : Nat → Int32} {O : e_O} {a0 a1 a2 a3 : Value} {st : List Value} {h : e_H} {y : Int32} {x : Int32} : e_F (kL_law L xs) O 829 [a0, a1, a2, a3] (.int y :: .int x :: st) h = e_F (kL_law L xs) O 830 [a0, a1, a2, a3] (.int (x + y) :: st) h := e_F_op rfl rfl
theorem zL_law_830 {L : Nat} {xs : Nat → Int32} {O : e_O} {a0 a1 a2 a3 : Value} {st : List Value} {h : e_H} {i : Int32} : e_F (kL_law L xs) O 830 [a0, a1, a2, a3] (.int i :: .retAddr 0 :: st) h = if e_inb i L = true then e_F (kL_law L xs) O 831 [a0, a1, a2, a3] (.int (xs i.toNatClampNeg) :: st) h else none := f_sld rfl
theorem zL_law_831 {L : Nat} {xs : Nat → Int32} {O : e_O} {a0 a1 a2 a3 : Value} {st : List Value} {h : e_H} {v0 : Int32} {v1 : Int32} {v2 : Int32} : e_F (kL_law L xs) O 831 [a0, a1, a2, a3] (.int v2 :: .int v1 :: .int v0 :: .ref 40 :: st) h = if e_cats st ≤ 8 then (O 140 [.ref 40, .int v0, .int v1, .int v2] h).bind (fun q => e_F (kL_law L xs) O 834 [a0, a1, a2, a3] (q.1.toList ++ st) q.2) else none := f_cV rfl rfl rfl rfl
theorem zL_law_834 {L : Nat} {xs : Nat → Int32} {O : e_O} {a0 a1 a2 a3 : Value} {st : List Value} {h : e_H} {y : Int32} {x : Int32} : e_F (kL_law L xs) O 834 [a0, a1, a2, a3] (.int y :: .int x :: st) h = if x = y then e_F (kL_law L xs) O 1009 [a0, a1, a2, a3] (st) h else e_F (kL_law L xs) O 837 [a0, a1, a2, a3] (st) h := f_ic (P := fun x y => x = y) rfl
theorem zL_law_837 {L : Nat} {xs : Nat → Int32} {O : e_O} {a0 a1 a2 a3 : Value} {st : List Value} {h : e_H}  : e_F (kL_law L xs) O 837 [a0, a1, a2, a3] (st) h = e_F (kL_law L xs) O 838 [a0, a1, a2, a3] (.int 0 :: st) h := e_F_op rfl rfl
theorem zL_law_838 {L : Nat} {xs : Nat → Int32} {O : e_O} {a0 a1 a2 a3 : Value}  {h : e_H} {x : Int32} : e_F (kL_law L xs) O 838 [a0, a1, a2, a3] ([.int x]) h = if x = 0 ∨ x = 1 then some (some (.int x), h) else none := f_retZ rfl
theorem zL_law_839 {L : Nat} {xs : Nat → Int32} {O : e_O} {a0 a2 a3 : Value} {st : List Value} {h : e_H} {x : Nat} : e_F (kL_law L xs) O 839 [a0, .ref x, a2, a3] (st) h = e_F (kL_law L xs) O 840 [a0, .ref x, a2, a3] (.ref x :: st) h := e_F_op rfl rfl
theorem zL_law_840 {L : Nat} {xs : Nat → Int32} {O : e_O} {a1 a2 a3 : Value} {st : List Value} {h : e_H} {x : Nat} : e_F (kL_law L xs) O 840 [.retAddr x, a1, a2, a3] (st) h = e_F (kL_law L xs) O 841 [.retAddr x, a1, a2, a3] (.retAddr x :: st) h := e_F_op rfl rfl
theorem zL_law_841 {L : Nat} {xs : Nat → Int32} {O : e_O} {a0 a1 a2 : Value} {st : List Value} {h : e_H} {x : Int32} : e_F (kL_law L xs) O 841 [a0, a1, a2, .int x] (st) h = e_F (kL_law L xs) O 842 [a0, a1, a2, .int x] (.int x :: st) h := e_F_op rfl rfl
theorem zL_law_842 {L : Nat} {xs : Nat → Int32} {O : e_O} {a0 a1 a2 a3 : Value} {st : List Value} {h : e_H}  : e_F (kL_law L xs) O 842 [a0, a1, a2, a3] (st) h = e_F (kL_law L xs) O 843 [a0, a1, a2, a3] (.int 1 :: st) h := e_F_op rfl rfl
theorem zL_law_843 {L : Nat} {xs : Nat → Int32} {O : e_O} {a0 a1 a2 a3 : Value} {st : List Value} {h : e_H} {y : Int32} {x : Int32} : e_F (kL_law L xs) O 843 [a0, a1, a2, a3] (.int y :: .int x :: st) h = e_F (kL_law L xs) O 844 [a0, a1, a2, a3] (.int (x + y) :: st) h := e_F_op rfl rfl
theorem zL_law_844 {L : Nat} {xs : Nat → Int32} {O : e_O} {a0 a1 a2 a3 : Value} {st : List Value} {h : e_H} {i : Int32} : e_F (kL_law L xs) O 844 [a0, a1, a2, a3] (.int i :: .retAddr 0 :: st) h = if e_inb i L = true then e_F (kL_law L xs) O 845 [a0, a1, a2, a3] (.int (xs i.toNatClampNeg) :: st) h else none := f_sld rfl
theorem zL_law_845 {L : Nat} {xs : Nat → Int32} {O : e_O} {a1 a2 a3 : Value} {st : List Value} {h : e_H} {x : Nat} : e_F (kL_law L xs) O 845 [.retAddr x, a1, a2, a3] (st) h = e_F (kL_law L xs) O 846 [.retAddr x, a1, a2, a3] (.retAddr x :: st) h := e_F_op rfl rfl
theorem zL_law_846 {L : Nat} {xs : Nat → Int32} {O : e_O} {a0 a1 a2 : Value} {st : List Value} {h : e_H} {x : Int32} : e_F (kL_law L xs) O 846 [a0, a1, a2, .int x] (st) h = e_F (kL_law L xs) O 847 [a0, a1, a2, .int x] (.int x :: st) h := e_F_op rfl rfl
theorem zL_law_847 {L : Nat} {xs : Nat → Int32} {O : e_O} {a0 a1 a2 a3 : Value} {st : List Value} {h : e_H}  : e_F (kL_law L xs) O 847 [a0, a1, a2, a3] (st) h = e_F (kL_law L xs) O 848 [a0, a1, a2, a3] (.int 2 :: st) h := e_F_op rfl rfl
theorem zL_law_848 {L : Nat} {xs : Nat → Int32} {O : e_O} {a0 a1 a2 a3 : Value} {st : List Value} {h : e_H} {y : Int32} {x : Int32} : e_F (kL_law L xs) O 848 [a0, a1, a2, a3] (.int y :: .int x :: st) h = e_F (kL_law L xs) O 849 [a0, a1, a2, a3] (.int (x + y) :: st) h := e_F_op rfl rfl
theorem zL_law_849 {L : Nat} {xs : Nat → Int32} {O : e_O} {a0 a1 a2 a3 : Value} {st : List Value} {h : e_H} {i : Int32} : e_F (kL_law L xs) O 849 [a0, a1, a2, a3] (.int i :: .retAddr 0 :: st) h = if e_inb i L = true then e_F (kL_law L xs) O 850 [a0, a1, a2, a3] (.int (xs i.toNatClampNeg) :: st) h else none := f_sld rfl
theorem zL_law_850 {L : Nat} {xs : Nat → Int32} {O : e_O} {a1 a2 a3 : Value} {st : List Value} {h : e_H} {x : Nat} : e_F (kL_law L xs) O 850 [.retAddr x, a1, a2, a3] (st) h = e_F (kL_law L xs) O 851 [.retAddr x, a1, a2, a3] (.retAddr x :: st) h := e_F_op rfl rfl
theorem zL_law_851 {L : Nat} {xs : Nat → Int32} {O : e_O} {a0 a1 a2 : Value} {st : List Value} {h : e_H} {x : Int32} : e_F (kL_law L xs) O 851 [a0, a1, a2, .int x] (st) h = e_F (kL_law L xs) O 852 [a0, a1, a2, .int x] (.int x :: st) h := e_F_op rfl rfl
theorem zL_law_852 {L : Nat} {xs : Nat → Int32} {O : e_O} {a0 a1 a2 a3 : Value} {st : List Value} {h : e_H}  : e_F (kL_law L xs) O 852 [a0, a1, a2, a3] (st) h = e_F (kL_law L xs) O 853 [a0, a1, a2, a3] (.int 3 :: st) h := e_F_op rfl rfl
theorem zL_law_853 {L : Nat} {xs : Nat → Int32} {O : e_O} {a0 a1 a2 a3 : Value} {st : List Value} {h : e_H} {y : Int32} {x : Int32} : e_F (kL_law L xs) O 853 [a0, a1, a2, a3] (.int y :: .int x :: st) h = e_F (kL_law L xs) O 854 [a0, a1, a2, a3] (.int (x + y) :: st) h := e_F_op rfl rfl
theorem zL_law_854 {L : Nat} {xs : Nat → Int32} {O : e_O} {a0 a1 a2 a3 : Value} {st : List Value} {h : e_H} {i : Int32} : e_F (kL_law L xs) O 854 [a0, a1, a2, a3] (.int i :: .retAddr 0 :: st) h = if e_inb i L = true then e_F (kL_law L xs) O 855 [a0, a1, a2, a3] (.int (xs i.toNatClampNeg) :: st) h else none := f_sld rfl
theorem zL_law_855 {L : Nat} {xs : Nat → Int32} {O : e_O} {a0 a1 a2 a3 : Value} {st : List Value} {h : e_H} {v0 : Int32} {v1 : Int32} {v2 : Int32} : e_F (kL_law L xs) O 855 [a0, a1, a2, a3] (.int v2 :: .int v1 :: .int v0 :: .ref 0 :: st) h = if e_cats st ≤ 8 then (O 52 [.ref 0, .int v0, .int v1, .int v2] h).bind (fun q => e_F (kL_law L xs) O 858 [a0, a1, a2, a3] (q.1.toList ++ st) q.2) else none := f_cV rfl rfl rfl rfl
theorem zL_law_858 {L : Nat} {xs : Nat → Int32} {O : e_O} {a0 a1 a3 : Value} {st : List Value} {h : e_H} {x : Nat} : e_F (kL_law L xs) O 858 [a0, a1, .ref x, a3] (st) h = e_F (kL_law L xs) O 859 [a0, a1, .ref x, a3] (.ref x :: st) h := e_F_op rfl rfl
theorem zL_law_859 {L : Nat} {xs : Nat → Int32} {O : e_O} {a1 a2 a3 : Value} {st : List Value} {h : e_H} {x : Nat} : e_F (kL_law L xs) O 859 [.retAddr x, a1, a2, a3] (st) h = e_F (kL_law L xs) O 860 [.retAddr x, a1, a2, a3] (.retAddr x :: st) h := e_F_op rfl rfl
theorem zL_law_860 {L : Nat} {xs : Nat → Int32} {O : e_O} {a0 a1 a2 : Value} {st : List Value} {h : e_H} {x : Int32} : e_F (kL_law L xs) O 860 [a0, a1, a2, .int x] (st) h = e_F (kL_law L xs) O 861 [a0, a1, a2, .int x] (.int x :: st) h := e_F_op rfl rfl
theorem zL_law_861 {L : Nat} {xs : Nat → Int32} {O : e_O} {a0 a1 a2 a3 : Value} {st : List Value} {h : e_H}  : e_F (kL_law L xs) O 861 [a0, a1, a2, a3] (st) h = e_F (kL_law L xs) O 862 [a0, a1, a2, a3] (.int 1 :: st) h := e_F_op rfl rfl
theorem zL_law_862 {L : Nat} {xs : Nat → Int32} {O : e_O} {a0 a1 a2 a3 : Value} {st : List Value} {h : e_H} {y : Int32} {x : Int32} : e_F (kL_law L xs) O 862 [a0, a1, a2, a3] (.int y :: .int x :: st) h = e_F (kL_law L xs) O 863 [a0, a1, a2, a3] (.int (x + y) :: st) h := e_F_op rfl rfl
theorem zL_law_863 {L : Nat} {xs : Nat → Int32} {O : e_O} {a0 a1 a2 a3 : Value} {st : List Value} {h : e_H} {i : Int32} : e_F (kL_law L xs) O 863 [a0, a1, a2, a3] (.int i :: .retAddr 0 :: st) h = if e_inb i L = true then e_F (kL_law L xs) O 864 [a0, a1, a2, a3] (.int (xs i.toNatClampNeg) :: st) h else none := f_sld rfl
theorem zL_law_864 {L : Nat} {xs : Nat → Int32} {O : e_O} {a1 a2 a3 : Value} {st : List Value} {h : e_H} {x : Nat} : e_F (kL_law L xs) O 864 [.retAddr x, a1, a2, a3] (st) h = e_F (kL_law L xs) O 865 [.retAddr x, a1, a2, a3] (.retAddr x :: st) h := e_F_op rfl rfl
theorem zL_law_865 {L : Nat} {xs : Nat → Int32} {O : e_O} {a0 a1 a2 : Value} {st : List Value} {h : e_H} {x : Int32} : e_F (kL_law L xs) O 865 [a0, a1, a2, .int x] (st) h = e_F (kL_law L xs) O 866 [a0, a1, a2, .int x] (.int x :: st) h := e_F_op rfl rfl
theorem zL_law_866 {L : Nat} {xs : Nat → Int32} {O : e_O} {a0 a1 a2 a3 : Value} {st : List Value} {h : e_H}  : e_F (kL_law L xs) O 866 [a0, a1, a2, a3] (st) h = e_F (kL_law L xs) O 867 [a0, a1, a2, a3] (.int 2 :: st) h := e_F_op rfl rfl
theorem zL_law_867 {L : Nat} {xs : Nat → Int32} {O : e_O} {a0 a1 a2 a3 : Value} {st : List Value} {h : e_H} {y : Int32} {x : Int32} : e_F (kL_law L xs) O 867 [a0, a1, a2, a3] (.int y :: .int x :: st) h = e_F (kL_law L xs) O 868 [a0, a1, a2, a3] (.int (x + y) :: st) h := e_F_op rfl rfl
theorem zL_law_868 {L : Nat} {xs : Nat → Int32} {O : e_O} {a0 a1 a2 a3 : Value} {st : List Value} {h : e_H} {i : Int32} : e_F (kL_law L xs) O 868 [a0, a1, a2, a3] (.int i :: .retAddr 0 :: st) h = if e_inb i L = true then e_F (kL_law L xs) O 869 [a0, a1, a2, a3] (.int (xs i.toNatClampNeg) :: st) h else none := f_sld rfl
theorem zL_law_869 {L : Nat} {xs : Nat → Int32} {O : e_O} {a1 a2 a3 : Value} {st : List Value} {h : e_H} {x : Nat} : e_F (kL_law L xs) O 869 [.retAddr x, a1, a2, a3] (st) h = e_F (kL_law L xs) O 870 [.retAddr x, a1, a2, a3] (.retAddr x :: st) h := e_F_op rfl rfl
theorem zL_law_870 {L : Nat} {xs : Nat → Int32} {O : e_O} {a0 a1 a2 : Value} {st : List Value} {h : e_H} {x : Int32} : e_F (kL_law L xs) O 870 [a0, a1, a2, .int x] (st) h = e_F (kL_law L xs) O 871 [a0, a1, a2, .int x] (.int x :: st) h := e_F_op rfl rfl
theorem zL_law_871 {L : Nat} {xs : Nat → Int32} {O : e_O} {a0 a1 a2 a3 : Value} {st : List Value} {h : e_H}  : e_F (kL_law L xs) O 871 [a0, a1, a2, a3] (st) h = e_F (kL_law L xs) O 872 [a0, a1, a2, a3] (.int 3 :: st) h := e_F_op rfl rfl
theorem zL_law_872 {L : Nat} {xs : Nat → Int32} {O : e_O} {a0 a1 a2 a3 : Value} {st : List Value} {h : e_H} {y : Int32} {x : Int32} : e_F (kL_law L xs) O 872 [a0, a1, a2, a3] (.int y :: .int x :: st) h = e_F (kL_law L xs) O 873 [a0, a1, a2, a3] (.int (x + y) :: st) h := e_F_op rfl rfl
theorem zL_law_873 {L : Nat} {xs : Nat → Int32} {O : e_O} {a0 a1 a2 a3 : Value} {st : List Value} {h : e_H} {i : Int32} : e_F (kL_law L xs) O 873 [a0, a1, a2, a3] (.int i :: .retAddr 0 :: st) h = if e_inb i L = true then e_F (kL_law L xs) O 874 [a0, a1, a2, a3] (.int (xs i.toNatClampNeg) :: st) h else none := f_sld rfl
theorem zL_law_874 {L : Nat} {xs : Nat → Int32} {O : e_O} {a0 a1 a2 a3 : Value} {st : List Value} {h : e_H} {v0 : Int32} {v1 : Int32} {v2 : Int32} : e_F (kL_law L xs) O 874 [a0, a1, a2, a3] (.int v2 :: .int v1 :: .int v0 :: .ref 40 :: st) h = if e_cats st ≤ 8 then (O 141 [.ref 40, .int v0, .int v1, .int v2] h).bind (fun q => e_F (kL_law L xs) O 877 [a0, a1, a2, a3] (q.1.toList ++ st) q.2) else none := f_cV rfl rfl rfl rfl
theorem zL_law_877 {L : Nat} {xs : Nat → Int32} {O : e_O} {a0 a1 a2 a3 : Value} {st : List Value} {h : e_H} {y : Int32} {x : Int32} : e_F (kL_law L xs) O 877 [a0, a1, a2, a3] (.int y :: .int x :: st) h = if x = y then e_F (kL_law L xs) O 1009 [a0, a1, a2, a3] (st) h else e_F (kL_law L xs) O 880 [a0, a1, a2, a3] (st) h := f_ic (P := fun x y => x = y) rfl
theorem zL_law_880 {L : Nat} {xs : Nat → Int32} {O : e_O} {a0 a1 a2 a3 : Value} {st : List Value} {h : e_H}  : e_F (kL_law L xs) O 880 [a0, a1, a2, a3] (st) h = e_F (kL_law L xs) O 881 [a0, a1, a2, a3] (.int 0 :: st) h := e_F_op rfl rfl
theorem zL_law_881 {L : Nat} {xs : Nat → Int32} {O : e_O} {a0 a1 a2 a3 : Value}  {h : e_H} {x : Int32} : e_F (kL_law L xs) O 881 [a0, a1, a2, a3] ([.int x]) h = if x = 0 ∨ x = 1 then some (some (.int x), h) else none := f_retZ rfl
theorem zL_law_882 {L : Nat} {xs : Nat → Int32} {O : e_O} {a0 a2 a3 : Value} {st : List Value} {h : e_H} {x : Nat} : e_F (kL_law L xs) O 882 [a0, .ref x, a2, a3] (st) h = e_F (kL_law L xs) O 883 [a0, .ref x, a2, a3] (.ref x :: st) h := e_F_op rfl rfl
theorem zL_law_883 {L : Nat} {xs : Nat → Int32} {O : e_O} {a1 a2 a3 : Value} {st : List Value} {h : e_H} {x : Nat} : e_F (kL_law L xs) O 883 [.retAddr x, a1, a2, a3] (st) h = e_F (kL_law L xs) O 884 [.retAddr x, a1, a2, a3] (.retAddr x :: st) h := e_F_op rfl rfl
theorem zL_law_884 {L : Nat} {xs : Nat → Int32} {O : e_O} {a0 a1 a2 : Value} {st : List Value} {h : e_H} {x : Int32} : e_F (kL_law L xs) O 884 [a0, a1, a2, .int x] (st) h = e_F (kL_law L xs) O 885 [a0, a1, a2, .int x] (.int x :: st) h := e_F_op rfl rfl
theorem zL_law_885 {L : Nat} {xs : Nat → Int32} {O : e_O} {a0 a1 a2 a3 : Value} {st : List Value} {h : e_H}  : e_F (kL_law L xs) O 885 [a0, a1, a2, a3] (st) h = e_F (kL_law L xs) O 886 [a0, a1, a2, a3] (.int 1 :: st) h := e_F_op rfl rfl
theorem zL_law_886 {L : Nat} {xs : Nat → Int32} {O : e_O} {a0 a1 a2 a3 : Value} {st : List Value} {h : e_H} {y : Int32} {x : Int32} : e_F (kL_law L xs) O 886 [a0, a1, a2, a3] (.int y :: .int x :: st) h = e_F (kL_law L xs) O 887 [a0, a1, a2, a3] (.int (x + y) :: st) h := e_F_op rfl rfl
theorem zL_law_887 {L : Nat} {xs : Nat → Int32} {O : e_O} {a0 a1 a2 a3 : Value} {st : List Value} {h : e_H} {i : Int32} : e_F (kL_law L xs) O 887 [a0, a1, a2, a3] (.int i :: .retAddr 0 :: st) h = if e_inb i L = true then e_F (kL_law L xs) O 888 [a0, a1, a2, a3] (.int (xs i.toNatClampNeg) :: st) h else none := f_sld rfl
theorem zL_law_888 {L : Nat} {xs : Nat → Int32} {O : e_O} {a1 a2 a3 : Value} {st : List Value} {h : e_H} {x : Nat} : e_F (kL_law L xs) O 888 [.retAddr x, a1, a2, a3] (st) h = e_F (kL_law L xs) O 889 [.retAddr x, a1, a2, a3] (.retAddr x :: st) h := e_F_op rfl rfl
theorem zL_law_889 {L : Nat} {xs : Nat → Int32} {O : e_O} {a0 a1 a2 : Value} {st : List Value} {h : e_H} {x : Int32} : e_F (kL_law L xs) O 889 [a0, a1, a2, .int x] (st) h = e_F (kL_law L xs) O 890 [a0, a1, a2, .int x] (.int x :: st) h := e_F_op rfl rfl
theorem zL_law_890 {L : Nat} {xs : Nat → Int32} {O : e_O} {a0 a1 a2 a3 : Value} {st : List Value} {h : e_H}  : e_F (kL_law L xs) O 890 [a0, a1, a2, a3] (st) h = e_F (kL_law L xs) O 891 [a0, a1, a2, a3] (.int 2 :: st) h := e_F_op rfl rfl
theorem zL_law_891 {L : Nat} {xs : Nat → Int32} {O : e_O} {a0 a1 a2 a3 : Value} {st : List Value} {h : e_H} {y : Int32} {x : Int32} : e_F (kL_law L xs) O 891 [a0, a1, a2, a3] (.int y :: .int x :: st) h = e_F (kL_law L xs) O 892 [a0, a1, a2, a3] (.int (x + y) :: st) h := e_F_op rfl rfl
theorem zL_law_892 {L : Nat} {xs : Nat → Int32} {O : e_O} {a0 a1 a2 a3 : Value} {st : List Value} {h : e_H} {i : Int32} : e_F (kL_law L xs) O 892 [a0, a1, a2, a3] (.int i :: .retAddr 0 :: st) h = if e_inb i L = true then e_F (kL_law L xs) O 893 [a0, a1, a2, a3] (.int (xs i.toNatClampNeg) :: st) h else none := f_sld rfl
theorem zL_law_893 {L : Nat} {xs : Nat → Int32} {O : e_O} {a1 a2 a3 : Value} {st : List Value} {h : e_H} {x : Nat} : e_F (kL_law L xs) O 893 [.retAddr x, a1, a2, a3] (st) h = e_F (kL_law L xs) O 894 [.retAddr x, a1, a2, a3] (.retAddr x :: st) h := e_F_op rfl rfl
theorem zL_law_894 {L : Nat} {xs : Nat → Int32} {O : e_O} {a0 a1 a2 : Value} {st : List Value} {h : e_H} {x : Int32} : e_F (kL_law L xs) O 894 [a0, a1, a2, .int x] (st) h = e_F (kL_law L xs) O 895 [a0, a1, a2, .int x] (.int x :: st) h := e_F_op rfl rfl
theorem zL_law_895 {L : Nat} {xs : Nat → Int32} {O : e_O} {a0 a1 a2 a3 : Value} {st : List Value} {h : e_H}  : e_F (kL_law L xs) O 895 [a0, a1, a2, a3] (st) h = e_F (kL_law L xs) O 896 [a0, a1, a2, a3] (.int 3 :: st) h := e_F_op rfl rfl
theorem zL_law_896 {L : Nat} {xs : Nat → Int32} {O : e_O} {a0 a1 a2 a3 : Value} {st : List Value} {h : e_H} {y : Int32} {x : Int32} : e_F (kL_law L xs) O 896 [a0, a1, a2, a3] (.int y :: .int x :: st) h = e_F (kL_law L xs) O 897 [a0, a1, a2, a3] (.int (x + y) :: st) h := e_F_op rfl rfl
theorem zL_law_897 {L : Nat} {xs : Nat → Int32} {O : e_O} {a0 a1 a2 a3 : Value} {st : List Value} {h : e_H} {i : Int32} : e_F (kL_law L xs) O 897 [a0, a1, a2, a3] (.int i :: .retAddr 0 :: st) h = if e_inb i L = true then e_F (kL_law L xs) O 898 [a0, a1, a2, a3] (.int (xs i.toNatClampNeg) :: st) h else none := f_sld rfl
theorem zL_law_898 {L : Nat} {xs : Nat → Int32} {O : e_O} {a0 a1 a2 a3 : Value} {st : List Value} {h : e_H} {v0 : Int32} {v1 : Int32} {v2 : Int32} : e_F (kL_law L xs) O 898 [a0, a1, a2, a3] (.int v2 :: .int v1 :: .int v0 :: .ref 0 :: st) h = if e_cats st ≤ 8 then (O 53 [.ref 0, .int v0, .int v1, .int v2] h).bind (fun q => e_F (kL_law L xs) O 901 [a0, a1, a2, a3] (q.1.toList ++ st) q.2) else none := f_cV rfl rfl rfl rfl
theorem zL_law_901 {L : Nat} {xs : Nat → Int32} {O : e_O} {a0 a1 a3 : Value} {st : List Value} {h : e_H} {x : Nat} : e_F (kL_law L xs) O 901 [a0, a1, .ref x, a3] (st) h = e_F (kL_law L xs) O 902 [a0, a1, .ref x, a3] (.ref x :: st) h := e_F_op rfl rfl
theorem zL_law_902 {L : Nat} {xs : Nat → Int32} {O : e_O} {a1 a2 a3 : Value} {st : List Value} {h : e_H} {x : Nat} : e_F (kL_law L xs) O 902 [.retAddr x, a1, a2, a3] (st) h = e_F (kL_law L xs) O 903 [.retAddr x, a1, a2, a3] (.retAddr x :: st) h := e_F_op rfl rfl
theorem zL_law_903 {L : Nat} {xs : Nat → Int32} {O : e_O} {a0 a1 a2 : Value} {st : List Value} {h : e_H} {x : Int32} : e_F (kL_law L xs) O 903 [a0, a1, a2, .int x] (st) h = e_F (kL_law L xs) O 904 [a0, a1, a2, .int x] (.int x :: st) h := e_F_op rfl rfl
theorem zL_law_904 {L : Nat} {xs : Nat → Int32} {O : e_O} {a0 a1 a2 a3 : Value} {st : List Value} {h : e_H}  : e_F (kL_law L xs) O 904 [a0, a1, a2, a3] (st) h = e_F (kL_law L xs) O 905 [a0, a1, a2, a3] (.int 1 :: st) h := e_F_op rfl rfl
theorem zL_law_905 {L : Nat} {xs : Nat → Int32} {O : e_O} {a0 a1 a2 a3 : Value} {st : List Value} {h : e_H} {y : Int32} {x : Int32} : e_F (kL_law L xs) O 905 [a0, a1, a2, a3] (.int y :: .int x :: st) h = e_F (kL_law L xs) O 906 [a0, a1, a2, a3] (.int (x + y) :: st) h := e_F_op rfl rfl
theorem zL_law_906 {L : Nat} {xs : Nat → Int32} {O : e_O} {a0 a1 a2 a3 : Value} {st : List Value} {h : e_H} {i : Int32} : e_F (kL_law L xs) O 906 [a0, a1, a2, a3] (.int i :: .retAddr 0 :: st) h = if e_inb i L = true then e_F (kL_law L xs) O 907 [a0, a1, a2, a3] (.int (xs i.toNatClampNeg) :: st) h else none := f_sld rfl
theorem zL_law_907 {L : Nat} {xs : Nat → Int32} {O : e_O} {a1 a2 a3 : Value} {st : List Value} {h : e_H} {x : Nat} : e_F (kL_law L xs) O 907 [.retAddr x, a1, a2, a3] (st) h = e_F (kL_law L xs) O 908 [.retAddr x, a1, a2, a3] (.retAddr x :: st) h := e_F_op rfl rfl
theorem zL_law_908 {L : Nat} {xs : Nat → Int32} {O : e_O} {a0 a1 a2 : Value} {st : List Value} {h : e_H} {x : Int32} : e_F (kL_law L xs) O 908 [a0, a1, a2, .int x] (st) h = e_F (kL_law L xs) O 909 [a0, a1, a2, .int x] (.int x :: st) h := e_F_op rfl rfl
theorem zL_law_909 {L : Nat} {xs : Nat → Int32} {O : e_O} {a0 a1 a2 a3 : Value} {st : List Value} {h : e_H}  : e_F (kL_law L xs) O 909 [a0, a1, a2, a3] (st) h = e_F (kL_law L xs) O 910 [a0, a1, a2, a3] (.int 2 :: st) h := e_F_op rfl rfl
theorem zL_law_910 {L : Nat} {xs : Nat → Int32} {O : e_O} {a0 a1 a2 a3 : Value} {st : List Value} {h : e_H} {y : Int32} {x : Int32} : e_F (kL_law L xs) O 910 [a0, a1, a2, a3] (.int y :: .int x :: st) h = e_F (kL_law L xs) O 911 [a0, a1, a2, a3] (.int (x + y) :: st) h := e_F_op rfl rfl
theorem zL_law_911 {L : Nat} {xs : Nat → Int32} {O : e_O} {a0 a1 a2 a3 : Value} {st : List Value} {h : e_H} {i : Int32} : e_F (kL_law L xs) O 911 [a0, a1, a2, a3] (.int i :: .retAddr 0 :: st) h = if e_inb i L = true then e_F (kL_law L xs) O 912 [a0, a1, a2, a3] (.int (xs i.toNatClampNeg) :: st) h else none := f_sld rfl
theorem zL_law_912 {L : Nat} {xs : Nat → Int32} {O : e_O} {a1 a2 a3 : Value} {st : List Value} {h : e_H} {x : Nat} : e_F (kL_law L xs) O 912 [.retAddr x, a1, a2, a3] (st) h = e_F (kL_law L xs) O 913 [.retAddr x, a1, a2, a3] (.retAddr x :: st) h := e_F_op rfl rfl
theorem zL_law_913 {L : Nat} {xs : Nat → Int32} {O : e_O} {a0 a1 a2 : Value} {st : List Value} {h : e_H} {x : Int32} : e_F (kL_law L xs) O 913 [a0, a1, a2, .int x] (st) h = e_F (kL_law L xs) O 914 [a0, a1, a2, .int x] (.int x :: st) h := e_F_op rfl rfl
theorem zL_law_914 {L : Nat} {xs : Nat → Int32} {O : e_O} {a0 a1 a2 a3 : Value} {st : List Value} {h : e_H}  : e_F (kL_law L xs) O 914 [a0, a1, a2, a3] (st) h = e_F (kL_law L xs) O 915 [a0, a1, a2, a3] (.int 3 :: st) h := e_F_op rfl rfl
theorem zL_law_915 {L : Nat} {xs : Nat → Int32} {O : e_O} {a0 a1 a2 a3 : Value} {st : List Value} {h : e_H} {y : Int32} {x : Int32} : e_F (kL_law L xs) O 915 [a0, a1, a2, a3] (.int y :: .int x :: st) h = e_F (kL_law L xs) O 916 [a0, a1, a2, a3] (.int (x + y) :: st) h := e_F_op rfl rfl
theorem zL_law_916 {L : Nat} {xs : Nat → Int32} {O : e_O} {a0 a1 a2 a3 : Value} {st : List Value} {h : e_H} {i : Int32} : e_F (kL_law L xs) O 916 [a0, a1, a2, a3] (.int i :: .retAddr 0 :: st) h = if e_inb i L = true then e_F (kL_law L xs) O 917 [a0, a1, a2, a3] (.int (xs i.toNatClampNeg) :: st) h else none := f_sld rfl
theorem zL_law_917 {L : Nat} {xs : Nat → Int32} {O : e_O} {a0 a1 a2 a3 : Value} {st : List Value} {h : e_H} {v0 : Int32} {v1 : Int32} {v2 : Int32} : e_F (kL_law L xs) O 917 [a0, a1, a2, a3] (.int v2 :: .int v1 :: .int v0 :: .ref 40 :: st) h = if e_cats st ≤ 8 then (O 142 [.ref 40, .int v0, .int v1, .int v2] h).bind (fun q => e_F (kL_law L xs) O 920 [a0, a1, a2, a3] (q.1.toList ++ st) q.2) else none := f_cV rfl rfl rfl rfl
theorem zL_law_920 {L : Nat} {xs : Nat → Int32} {O : e_O} {a0 a1 a2 a3 : Value} {st : List Value} {h : e_H} {y : Int32} {x : Int32} : e_F (kL_law L xs) O 920 [a0, a1, a2, a3] (.int y :: .int x :: st) h = if x = y then e_F (kL_law L xs) O 1009 [a0, a1, a2, a3] (st) h else e_F (kL_law L xs) O 923 [a0, a1, a2, a3] (st) h := f_ic (P := fun x y => x = y) rfl
theorem zL_law_923 {L : Nat} {xs : Nat → Int32} {O : e_O} {a0 a1 a2 a3 : Value} {st : List Value} {h : e_H}  : e_F (kL_law L xs) O 923 [a0, a1, a2, a3] (st) h = e_F (kL_law L xs) O 924 [a0, a1, a2, a3] (.int 0 :: st) h := e_F_op rfl rfl
theorem zL_law_924 {L : Nat} {xs : Nat → Int32} {O : e_O} {a0 a1 a2 a3 : Value}  {h : e_H} {x : Int32} : e_F (kL_law L xs) O 924 [a0, a1, a2, a3] ([.int x]) h = if x = 0 ∨ x = 1 then some (some (.int x), h) else none := f_retZ rfl
theorem zL_law_925 {L : Nat} {xs : Nat → Int32} {O : e_O} {a0 a2 a3 : Value} {st : List Value} {h : e_H} {x : Nat} : e_F (kL_law L xs) O 925 [a0, .ref x, a2, a3] (st) h = e_F (kL_law L xs) O 926 [a0, .ref x, a2, a3] (.ref x :: st) h := e_F_op rfl rfl
theorem zL_law_926 {L : Nat} {xs : Nat → Int32} {O : e_O} {a1 a2 a3 : Value} {st : List Value} {h : e_H} {x : Nat} : e_F (kL_law L xs) O 926 [.retAddr x, a1, a2, a3] (st) h = e_F (kL_law L xs) O 927 [.retAddr x, a1, a2, a3] (.retAddr x :: st) h := e_F_op rfl rfl
theorem zL_law_927 {L : Nat} {xs : Nat → Int32} {O : e_O} {a0 a1 a2 : Value} {st : List Value} {h : e_H} {x : Int32} : e_F (kL_law L xs) O 927 [a0, a1, a2, .int x] (st) h = e_F (kL_law L xs) O 928 [a0, a1, a2, .int x] (.int x :: st) h := e_F_op rfl rfl
theorem zL_law_928 {L : Nat} {xs : Nat → Int32} {O : e_O} {a0 a1 a2 a3 : Value} {st : List Value} {h : e_H}  : e_F (kL_law L xs) O 928 [a0, a1, a2, a3] (st) h = e_F (kL_law L xs) O 929 [a0, a1, a2, a3] (.int 1 :: st) h := e_F_op rfl rfl
theorem zL_law_929 {L : Nat} {xs : Nat → Int32} {O : e_O} {a0 a1 a2 a3 : Value} {st : List Value} {h : e_H} {y : Int32} {x : Int32} : e_F (kL_law L xs) O 929 [a0, a1, a2, a3] (.int y :: .int x :: st) h = e_F (kL_law L xs) O 930 [a0, a1, a2, a3] (.int (x + y) :: st) h := e_F_op rfl rfl
theorem zL_law_930 {L : Nat} {xs : Nat → Int32} {O : e_O} {a0 a1 a2 a3 : Value} {st : List Value} {h : e_H} {i : Int32} : e_F (kL_law L xs) O 930 [a0, a1, a2, a3] (.int i :: .retAddr 0 :: st) h = if e_inb i L = true then e_F (kL_law L xs) O 931 [a0, a1, a2, a3] (.int (xs i.toNatClampNeg) :: st) h else none := f_sld rfl
theorem zL_law_931 {L : Nat} {xs : Nat → Int32} {O : e_O} {a0 a1 a2 a3 : Value} {st : List Value} {h : e_H} {v0 : Int32} : e_F (kL_law L xs) O 931 [a0, a1, a2, a3] (.int v0 :: .ref 0 :: st) h = if e_cats st ≤ 8 then (O 54 [.ref 0, .int v0] h).bind (fun q => e_F (kL_law L xs) O 934 [a0, a1, a2, a3] (q.1.toList ++ st) q.2) else none := f_cV rfl rfl rfl rfl
theorem zL_law_934 {L : Nat} {xs : Nat → Int32} {O : e_O} {a0 a1 a3 : Value} {st : List Value} {h : e_H} {x : Nat} : e_F (kL_law L xs) O 934 [a0, a1, .ref x, a3] (st) h = e_F (kL_law L xs) O 935 [a0, a1, .ref x, a3] (.ref x :: st) h := e_F_op rfl rfl
theorem zL_law_935 {L : Nat} {xs : Nat → Int32} {O : e_O} {a1 a2 a3 : Value} {st : List Value} {h : e_H} {x : Nat} : e_F (kL_law L xs) O 935 [.retAddr x, a1, a2, a3] (st) h = e_F (kL_law L xs) O 936 [.retAddr x, a1, a2, a3] (.retAddr x :: st) h := e_F_op rfl rfl
theorem zL_law_936 {L : Nat} {xs : Nat → Int32} {O : e_O} {a0 a1 a2 : Value} {st : List Value} {h : e_H} {x : Int32} : e_F (kL_law L xs) O 936 [a0, a1, a2, .int x] (st) h = e_F (kL_law L xs) O 937 [a0, a1, a2, .int x] (.int x :: st) h := e_F_op rfl rfl
theorem zL_law_937 {L : Nat} {xs : Nat → Int32} {O : e_O} {a0 a1 a2 a3 : Value} {st : List Value} {h : e_H}  : e_F (kL_law L xs) O 937 [a0, a1, a2, a3] (st) h = e_F (kL_law L xs) O 938 [a0, a1, a2, a3] (.int 1 :: st) h := e_F_op rfl rfl
theorem zL_law_938 {L : Nat} {xs : Nat → Int32} {O : e_O} {a0 a1 a2 a3 : Value} {st : List Value} {h : e_H} {y : Int32} {x : Int32} : e_F (kL_law L xs) O 938 [a0, a1, a2, a3] (.int y :: .int x :: st) h = e_F (kL_law L xs) O 939 [a0, a1, a2, a3] (.int (x + y) :: st) h := e_F_op rfl rfl
theorem zL_law_939 {L : Nat} {xs : Nat → Int32} {O : e_O} {a0 a1 a2 a3 : Value} {st : List Value} {h : e_H} {i : Int32} : e_F (kL_law L xs) O 939 [a0, a1, a2, a3] (.int i :: .retAddr 0 :: st) h = if e_inb i L = true then e_F (kL_law L xs) O 940 [a0, a1, a2, a3] (.int (xs i.toNatClampNeg) :: st) h else none := f_sld rfl
theorem zL_law_940 {L : Nat} {xs : Nat → Int32} {O : e_O} {a0 a1 a2 a3 : Value} {st : List Value} {h : e_H} {v0 : Int32} : e_F (kL_law L xs) O 940 [a0, a1, a2, a3] (.int v0 :: .ref 40 :: st) h = if e_cats st ≤ 8 then (O 143 [.ref 40, .int v0] h).bind (fun q => e_F (kL_law L xs) O 943 [a0, a1, a2, a3] (q.1.toList ++ st) q.2) else none := f_cV rfl rfl rfl rfl
theorem zL_law_943 {L : Nat} {xs : Nat → Int32} {O : e_O} {a0 a1 a2 a3 : Value} {st : List Value} {h : e_H} {y : Int32} {x : Int32} : e_F (kL_law L xs) O 943 [a0, a1, a2, a3] (.int y :: .int x :: st) h = if x = y then e_F (kL_law L xs) O 1009 [a0, a1, a2, a3] (st) h else e_F (kL_law L xs) O 946 [a0, a1, a2, a3] (st) h := f_ic (P := fun x y => x = y) rfl
theorem zL_law_946 {L : Nat} {xs : Nat → Int32} {O : e_O} {a0 a1 a2 a3 : Value} {st : List Value} {h : e_H}  : e_F (kL_law L xs) O 946 [a0, a1, a2, a3] (st) h = e_F (kL_law L xs) O 947 [a0, a1, a2, a3] (.int 0 :: st) h := e_F_op rfl rfl
theorem zL_law_947 {L : Nat} {xs : Nat → Int32} {O : e_O} {a0 a1 a2 a3 : Value}  {h : e_H} {x : Int32} : e_F (kL_law L xs) O 947 [a0, a1, a2, a3] ([.int x]) h = if x = 0 ∨ x = 1 then some (some (.int x), h) else none := f_retZ rfl
theorem zL_law_948 {L : Nat} {xs : Nat → Int32} {O : e_O} {a0 a2 a3 : Value} {st : List Value} {h : e_H} {x : Nat} : e_F (kL_law L xs) O 948 [a0, .ref x, a2, a3] (st) h = e_F (kL_law L xs) O 949 [a0, .ref x, a2, a3] (.ref x :: st) h := e_F_op rfl rfl
theorem zL_law_949 {L : Nat} {xs : Nat → Int32} {O : e_O} {a1 a2 a3 : Value} {st : List Value} {h : e_H} {x : Nat} : e_F (kL_law L xs) O 949 [.retAddr x, a1, a2, a3] (st) h = e_F (kL_law L xs) O 950 [.retAddr x, a1, a2, a3] (.retAddr x :: st) h := e_F_op rfl rfl
theorem zL_law_950 {L : Nat} {xs : Nat → Int32} {O : e_O} {a0 a1 a2 : Value} {st : List Value} {h : e_H} {x : Int32} : e_F (kL_law L xs) O 950 [a0, a1, a2, .int x] (st) h = e_F (kL_law L xs) O 951 [a0, a1, a2, .int x] (.int x :: st) h := e_F_op rfl rfl
theorem zL_law_951 {L : Nat} {xs : Nat → Int32} {O : e_O} {a0 a1 a2 a3 : Value} {st : List Value} {h : e_H}  : e_F (kL_law L xs) O 951 [a0, a1, a2, a3] (st) h = e_F (kL_law L xs) O 952 [a0, a1, a2, a3] (.int 1 :: st) h := e_F_op rfl rfl
theorem zL_law_952 {L : Nat} {xs : Nat → Int32} {O : e_O} {a0 a1 a2 a3 : Value} {st : List Value} {h : e_H} {y : Int32} {x : Int32} : e_F (kL_law L xs) O 952 [a0, a1, a2, a3] (.int y :: .int x :: st) h = e_F (kL_law L xs) O 953 [a0, a1, a2, a3] (.int (x + y) :: st) h := e_F_op rfl rfl
theorem zL_law_953 {L : Nat} {xs : Nat → Int32} {O : e_O} {a0 a1 a2 a3 : Value} {st : List Value} {h : e_H} {i : Int32} : e_F (kL_law L xs) O 953 [a0, a1, a2, a3] (.int i :: .retAddr 0 :: st) h = if e_inb i L = true then e_F (kL_law L xs) O 954 [a0, a1, a2, a3] (.int (xs i.toNatClampNeg) :: st) h else none := f_sld rfl
theorem zL_law_954 {L : Nat} {xs : Nat → Int32} {O : e_O} {a0 a1 a2 a3 : Value} {st : List Value} {h : e_H} {v0 : Int32} : e_F (kL_law L xs) O 954 [a0, a1, a2, a3] (.int v0 :: .ref 0 :: st) h = if e_cats st ≤ 8 then (O 55 [.ref 0, .int v0] h).bind (fun q => e_F (kL_law L xs) O 957 [a0, a1, a2, a3] (q.1.toList ++ st) q.2) else none := f_cV rfl rfl rfl rfl
theorem zL_law_957 {L : Nat} {xs : Nat → Int32} {O : e_O} {a0 a1 a3 : Value} {st : List Value} {h : e_H} {x : Nat} : e_F (kL_law L xs) O 957 [a0, a1, .ref x, a3] (st) h = e_F (kL_law L xs) O 958 [a0, a1, .ref x, a3] (.ref x :: st) h := e_F_op rfl rfl
theorem zL_law_958 {L : Nat} {xs : Nat → Int32} {O : e_O} {a1 a2 a3 : Value} {st : List Value} {h : e_H} {x : Nat} : e_F (kL_law L xs) O 958 [.retAddr x, a1, a2, a3] (st) h = e_F (kL_law L xs) O 959 [.retAddr x, a1, a2, a3] (.retAddr x :: st) h := e_F_op rfl rfl
theorem zL_law_959 {L : Nat} {xs : Nat → Int32} {O : e_O} {a0 a1 a2 : Value} {st : List Value} {h : e_H} {x : Int32} : e_F (kL_law L xs) O 959 [a0, a1, a2, .int x] (st) h = e_F (kL_law L xs) O 960 [a0, a1, a2, .int x] (.int x :: st) h := e_F_op rfl rfl
theorem zL_law_960 {L : Nat} {xs : Nat → Int32} {O : e_O} {a0 a1 a2 a3 : Value} {st : List Value} {h : e_H}  : e_F (kL_law L xs) O 960 [a0, a1, a2, a3] (st) h = e_F (kL_law L xs) O 961 [a0, a1, a2, a3] (.int 1 :: st) h := e_F_op rfl rfl
theorem zL_law_961 {L : Nat} {xs : Nat → Int32} {O : e_O} {a0 a1 a2 a3 : Value} {st : List Value} {h : e_H} {y : Int32} {x : Int32} : e_F (kL_law L xs) O 961 [a0, a1, a2, a3] (.int y :: .int x :: st) h = e_F (kL_law L xs) O 962 [a0, a1, a2, a3] (.int (x + y) :: st) h := e_F_op rfl rfl
theorem zL_law_962 {L : Nat} {xs : Nat → Int32} {O : e_O} {a0 a1 a2 a3 : Value} {st : List Value} {h : e_H} {i : Int32} : e_F (kL_law L xs) O 962 [a0, a1, a2, a3] (.int i :: .retAddr 0 :: st) h = if e_inb i L = true then e_F (kL_law L xs) O 963 [a0, a1, a2, a3] (.int (xs i.toNatClampNeg) :: st) h else none := f_sld rfl
theorem zL_law_963 {L : Nat} {xs : Nat → Int32} {O : e_O} {a0 a1 a2 a3 : Value} {st : List Value} {h : e_H} {v0 : Int32} : e_F (kL_law L xs) O 963 [a0, a1, a2, a3] (.int v0 :: .ref 40 :: st) h = if e_cats st ≤ 8 then (O 144 [.ref 40, .int v0] h).bind (fun q => e_F (kL_law L xs) O 966 [a0, a1, a2, a3] (q.1.toList ++ st) q.2) else none := f_cV rfl rfl rfl rfl
theorem zL_law_966 {L : Nat} {xs : Nat → Int32} {O : e_O} {a0 a1 a2 a3 : Value} {st : List Value} {h : e_H} {y : Int64} {x : Int64} : e_F (kL_law L xs) O 966 [a0, a1, a2, a3] (.long y :: .long x :: st) h = e_F (kL_law L xs) O 967 [a0, a1, a2, a3] (.int (lg_cmp x y) :: st) h := e_F_op rfl rfl
theorem zL_law_967 {L : Nat} {xs : Nat → Int32} {O : e_O} {a0 a1 a2 a3 : Value} {st : List Value} {h : e_H} {x : Int32} : e_F (kL_law L xs) O 967 [a0, a1, a2, a3] (.int x :: st) h = if x = 0 then e_F (kL_law L xs) O 1009 [a0, a1, a2, a3] (st) h else e_F (kL_law L xs) O 970 [a0, a1, a2, a3] (st) h := f_if (P := fun x => x = 0) rfl
theorem zL_law_970 {L : Nat} {xs : Nat → Int32} {O : e_O} {a0 a1 a2 a3 : Value} {st : List Value} {h : e_H}  : e_F (kL_law L xs) O 970 [a0, a1, a2, a3] (st) h = e_F (kL_law L xs) O 971 [a0, a1, a2, a3] (.int 0 :: st) h := e_F_op rfl rfl
theorem zL_law_971 {L : Nat} {xs : Nat → Int32} {O : e_O} {a0 a1 a2 a3 : Value}  {h : e_H} {x : Int32} : e_F (kL_law L xs) O 971 [a0, a1, a2, a3] ([.int x]) h = if x = 0 ∨ x = 1 then some (some (.int x), h) else none := f_retZ rfl
theorem zL_law_972 {L : Nat} {xs : Nat → Int32} {O : e_O} {a0 a2 a3 : Value} {st : List Value} {h : e_H} {x : Nat} : e_F (kL_law L xs) O 972 [a0, .ref x, a2, a3] (st) h = e_F (kL_law L xs) O 973 [a0, .ref x, a2, a3] (.ref x :: st) h := e_F_op rfl rfl
theorem zL_law_973 {L : Nat} {xs : Nat → Int32} {O : e_O} {a1 a2 a3 : Value} {st : List Value} {h : e_H} {x : Nat} : e_F (kL_law L xs) O 973 [.retAddr x, a1, a2, a3] (st) h = e_F (kL_law L xs) O 974 [.retAddr x, a1, a2, a3] (.retAddr x :: st) h := e_F_op rfl rfl
theorem zL_law_974 {L : Nat} {xs : Nat → Int32} {O : e_O} {a0 a1 a2 : Value} {st : List Value} {h : e_H} {x : Int32} : e_F (kL_law L xs) O 974 [a0, a1, a2, .int x] (st) h = e_F (kL_law L xs) O 975 [a0, a1, a2, .int x] (.int x :: st) h := e_F_op rfl rfl
theorem zL_law_975 {L : Nat} {xs : Nat → Int32} {O : e_O} {a0 a1 a2 a3 : Value} {st : List Value} {h : e_H}  : e_F (kL_law L xs) O 975 [a0, a1, a2, a3] (st) h = e_F (kL_law L xs) O 976 [a0, a1, a2, a3] (.int 1 :: st) h := e_F_op rfl rfl
theorem zL_law_976 {L : Nat} {xs : Nat → Int32} {O : e_O} {a0 a1 a2 a3 : Value} {st : List Value} {h : e_H} {y : Int32} {x : Int32} : e_F (kL_law L xs) O 976 [a0, a1, a2, a3] (.int y :: .int x :: st) h = e_F (kL_law L xs) O 977 [a0, a1, a2, a3] (.int (x + y) :: st) h := e_F_op rfl rfl
theorem zL_law_977 {L : Nat} {xs : Nat → Int32} {O : e_O} {a0 a1 a2 a3 : Value} {st : List Value} {h : e_H} {i : Int32} : e_F (kL_law L xs) O 977 [a0, a1, a2, a3] (.int i :: .retAddr 0 :: st) h = if e_inb i L = true then e_F (kL_law L xs) O 978 [a0, a1, a2, a3] (.int (xs i.toNatClampNeg) :: st) h else none := f_sld rfl
theorem zL_law_978 {L : Nat} {xs : Nat → Int32} {O : e_O} {a0 a1 a2 a3 : Value} {st : List Value} {h : e_H} {v0 : Int32} : e_F (kL_law L xs) O 978 [a0, a1, a2, a3] (.int v0 :: .ref 0 :: st) h = if e_cats st ≤ 8 then (O 56 [.ref 0, .int v0] h).bind (fun q => e_F (kL_law L xs) O 981 [a0, a1, a2, a3] (q.1.toList ++ st) q.2) else none := f_cV rfl rfl rfl rfl
theorem zL_law_981 {L : Nat} {xs : Nat → Int32} {O : e_O} {a0 a1 a3 : Value} {st : List Value} {h : e_H} {x : Nat} : e_F (kL_law L xs) O 981 [a0, a1, .ref x, a3] (st) h = e_F (kL_law L xs) O 982 [a0, a1, .ref x, a3] (.ref x :: st) h := e_F_op rfl rfl
theorem zL_law_982 {L : Nat} {xs : Nat → Int32} {O : e_O} {a1 a2 a3 : Value} {st : List Value} {h : e_H} {x : Nat} : e_F (kL_law L xs) O 982 [.retAddr x, a1, a2, a3] (st) h = e_F (kL_law L xs) O 983 [.retAddr x, a1, a2, a3] (.retAddr x :: st) h := e_F_op rfl rfl
theorem zL_law_983 {L : Nat} {xs : Nat → Int32} {O : e_O} {a0 a1 a2 : Value} {st : List Value} {h : e_H} {x : Int32} : e_F (kL_law L xs) O 983 [a0, a1, a2, .int x] (st) h = e_F (kL_law L xs) O 984 [a0, a1, a2, .int x] (.int x :: st) h := e_F_op rfl rfl
theorem zL_law_984 {L : Nat} {xs : Nat → Int32} {O : e_O} {a0 a1 a2 a3 : Value} {st : List Value} {h : e_H}  : e_F (kL_law L xs) O 984 [a0, a1, a2, a3] (st) h = e_F (kL_law L xs) O 985 [a0, a1, a2, a3] (.int 1 :: st) h := e_F_op rfl rfl
theorem zL_law_985 {L : Nat} {xs : Nat → Int32} {O : e_O} {a0 a1 a2 a3 : Value} {st : List Value} {h : e_H} {y : Int32} {x : Int32} : e_F (kL_law L xs) O 985 [a0, a1, a2, a3] (.int y :: .int x :: st) h = e_F (kL_law L xs) O 986 [a0, a1, a2, a3] (.int (x + y) :: st) h := e_F_op rfl rfl
theorem zL_law_986 {L : Nat} {xs : Nat → Int32} {O : e_O} {a0 a1 a2 a3 : Value} {st : List Value} {h : e_H} {i : Int32} : e_F (kL_law L xs) O 986 [a0, a1, a2, a3] (.int i :: .retAddr 0 :: st) h = if e_inb i L = true then e_F (kL_law L xs) O 987 [a0, a1, a2, a3] (.int (xs i.toNatClampNeg) :: st) h else none := f_sld rfl
theorem zL_law_987 {L : Nat} {xs : Nat → Int32} {O : e_O} {a0 a1 a2 a3 : Value} {st : List Value} {h : e_H} {v0 : Int32} : e_F (kL_law L xs) O 987 [a0, a1, a2, a3] (.int v0 :: .ref 40 :: st) h = if e_cats st ≤ 8 then (O 145 [.ref 40, .int v0] h).bind (fun q => e_F (kL_law L xs) O 990 [a0, a1, a2, a3] (q.1.toList ++ st) q.2) else none := f_cV rfl rfl rfl rfl
theorem zL_law_990 {L : Nat} {xs : Nat → Int32} {O : e_O} {a0 a1 a2 a3 : Value} {st : List Value} {h : e_H} {y : Int32} {x : Int32} : e_F (kL_law L xs) O 990 [a0, a1, a2, a3] (.int y :: .int x :: st) h = if x = y then e_F (kL_law L xs) O 1009 [a0, a1, a2, a3] (st) h else e_F (kL_law L xs) O 993 [a0, a1, a2, a3] (st) h := f_ic (P := fun x y => x = y) rfl
theorem zL_law_993 {L : Nat} {xs : Nat → Int32} {O : e_O} {a0 a1 a2 a3 : Value} {st : List Value} {h : e_H}  : e_F (kL_law L xs) O 993 [a0, a1, a2, a3] (st) h = e_F (kL_law L xs) O 994 [a0, a1, a2, a3] (.int 0 :: st) h := e_F_op rfl rfl
theorem zL_law_994 {L : Nat} {xs : Nat → Int32} {O : e_O} {a0 a1 a2 a3 : Value}  {h : e_H} {x : Int32} : e_F (kL_law L xs) O 994 [a0, a1, a2, a3] ([.int x]) h = if x = 0 ∨ x = 1 then some (some (.int x), h) else none := f_retZ rfl
theorem zL_law_995 {L : Nat} {xs : Nat → Int32} {O : e_O} {a0 a2 a3 : Value} {st : List Value} {h : e_H} {x : Nat} : e_F (kL_law L xs) O 995 [a0, .ref x, a2, a3] (st) h = e_F (kL_law L xs) O 996 [a0, .ref x, a2, a3] (.ref x :: st) h := e_F_op rfl rfl
theorem zL_law_996 {L : Nat} {xs : Nat → Int32} {O : e_O} {a0 a1 a2 a3 : Value} {st : List Value} {h : e_H}  : e_F (kL_law L xs) O 996 [a0, a1, a2, a3] (.ref 0 :: st) h = if e_cats st ≤ 8 then (O 57 [.ref 0] h).bind (fun q => e_F (kL_law L xs) O 999 [a0, a1, a2, a3] (q.1.toList ++ st) q.2) else none := f_cV rfl rfl rfl rfl
theorem zL_law_999 {L : Nat} {xs : Nat → Int32} {O : e_O} {a0 a1 a3 : Value} {st : List Value} {h : e_H} {x : Nat} : e_F (kL_law L xs) O 999 [a0, a1, .ref x, a3] (st) h = e_F (kL_law L xs) O 1000 [a0, a1, .ref x, a3] (.ref x :: st) h := e_F_op rfl rfl
theorem zL_law_1000 {L : Nat} {xs : Nat → Int32} {O : e_O} {a0 a1 a2 a3 : Value} {st : List Value} {h : e_H}  : e_F (kL_law L xs) O 1000 [a0, a1, a2, a3] (.ref 40 :: st) h = if e_cats st ≤ 8 then (O 146 [.ref 40] h).bind (fun q => e_F (kL_law L xs) O 1003 [a0, a1, a2, a3] (q.1.toList ++ st) q.2) else none := f_cV rfl rfl rfl rfl
theorem zL_law_1003 {L : Nat} {xs : Nat → Int32} {O : e_O} {a0 a1 a2 a3 : Value} {st : List Value} {h : e_H} {y : Int64} {x : Int64} : e_F (kL_law L xs) O 1003 [a0, a1, a2, a3] (.long y :: .long x :: st) h = e_F (kL_law L xs) O 1004 [a0, a1, a2, a3] (.int (lg_cmp x y) :: st) h := e_F_op rfl rfl
theorem zL_law_1004 {L : Nat} {xs : Nat → Int32} {O : e_O} {a0 a1 a2 a3 : Value} {st : List Value} {h : e_H} {x : Int32} : e_F (kL_law L xs) O 1004 [a0, a1, a2, a3] (.int x :: st) h = if x = 0 then e_F (kL_law L xs) O 1009 [a0, a1, a2, a3] (st) h else e_F (kL_law L xs) O 1007 [a0, a1, a2, a3] (st) h := f_if (P := fun x => x = 0) rfl
theorem zL_law_1007 {L : Nat} {xs : Nat → Int32} {O : e_O} {a0 a1 a2 a3 : Value} {st : List Value} {h : e_H}  : e_F (kL_law L xs) O 1007 [a0, a1, a2, a3] (st) h = e_F (kL_law L xs) O 1008 [a0, a1, a2, a3] (.int 0 :: st) h := e_F_op rfl rfl
theorem zL_law_1008 {L : Nat} {xs : Nat → Int32} {O : e_O} {a0 a1 a2 a3 : Value}  {h : e_H} {x : Int32} : e_F (kL_law L xs) O 1008 [a0, a1, a2, a3] ([.int x]) h = if x = 0 ∨ x = 1 then some (some (.int x), h) else none := f_retZ rfl
theorem zL_law_1009 {L : Nat} {xs : Nat → Int32} {O : e_O} {a0 a1 a2 : Value} {st : List Value} {h : e_H} {x : Int32} : e_F (kL_law L xs) O 1009 [a0, a1, a2, .int x] (st) h = e_F (kL_law L xs) O 1012 [a0, a1, e_k a2, .int (x + 5)] (st) h := e_F_op rfl rfl
theorem zL_law_1012 {L : Nat} {xs : Nat → Int32} {O : e_O} {a0 a1 a2 a3 : Value} {st : List Value} {h : e_H}  : e_F (kL_law L xs) O 1012 [a0, a1, a2, a3] (st) h = e_F (kL_law L xs) O 18 [a0, a1, a2, a3] (st) h := e_F_op rfl rfl
theorem zL_law_1015 {L : Nat} {xs : Nat → Int32} {O : e_O} {a0 a1 a2 a3 : Value} {st : List Value} {h : e_H}  : e_F (kL_law L xs) O 1015 [a0, a1, a2, a3] (st) h = e_F (kL_law L xs) O 1016 [a0, a1, a2, a3] (.int 1 :: st) h := e_F_op rfl rfl
theorem zL_law_1016 {L : Nat} {xs : Nat → Int32} {O : e_O} {a0 a1 a2 a3 : Value}  {h : e_H} {x : Int32} : e_F (kL_law L xs) O 1016 [a0, a1, a2, a3] ([.int x]) h = if x = 0 ∨ x = 1 then some (some (.int x), h) else none := f_retZ rfl
