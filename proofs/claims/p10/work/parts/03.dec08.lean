theorem dX10_init_148 : decode cX10_init 148 = .ok (.aload_n 0, 1) := by decide +kernel
theorem dX10_init_149 : decode cX10_init 149 = .ok (.bipush 10, 2) := by decide +kernel
theorem dX10_init_151 : decode cX10_init 151 = .ok (.newarray .int, 2) := by decide +kernel
theorem dX10_init_153 : decode cX10_init 153 = .ok (.putfield 47, 3) := by decide +kernel
theorem dX10_init_156 : decode cX10_init 156 = .ok (.aload_n 0, 1) := by decide +kernel
theorem dX10_init_157 : decode cX10_init 157 = .ok (.bipush 20, 2) := by decide +kernel
theorem dX10_init_159 : decode cX10_init 159 = .ok (.newarray .int, 2) := by decide +kernel
theorem dX10_init_161 : decode cX10_init 161 = .ok (.putfield 50, 3) := by decide +kernel
theorem dX10_init_164 : decode cX10_init 164 = .ok (.aload_n 0, 1) := by decide +kernel
theorem dX10_init_165 : decode cX10_init 165 = .ok (.sipush 500, 3) := by decide +kernel
theorem dX10_init_168 : decode cX10_init 168 = .ok (.newarray .int, 2) := by decide +kernel
theorem dX10_init_170 : decode cX10_init 170 = .ok (.putfield 53, 3) := by decide +kernel
theorem dX10_init_173 : decode cX10_init 173 = .ok (.aload_n 0, 1) := by decide +kernel
theorem dX10_init_174 : decode cX10_init 174 = .ok (.bipush 115, 2) := by decide +kernel
theorem dX10_init_176 : decode cX10_init 176 = .ok (.newarray .int, 2) := by decide +kernel
theorem dX10_init_178 : decode cX10_init 178 = .ok (.dup, 1) := by decide +kernel
theorem dX10_init_179 : decode cX10_init 179 = .ok (.iconst 0, 1) := by decide +kernel
theorem dX10_init_180 : decode cX10_init 180 = .ok (.bipush 32, 2) := by decide +kernel
theorem dX10_init_182 : decode cX10_init 182 = .ok (.iastore, 1) := by decide +kernel
theorem dX10_init_183 : decode cX10_init 183 = .ok (.dup, 1) := by decide +kernel
theorem dX10_init_184 : decode cX10_init 184 = .ok (.iconst 1, 1) := by decide +kernel
theorem dX10_init_185 : decode cX10_init 185 = .ok (.bipush 98, 2) := by decide +kernel
theorem dX10_init_187 : decode cX10_init 187 = .ok (.iastore, 1) := by decide +kernel
theorem dX10_init_188 : decode cX10_init 188 = .ok (.dup, 1) := by decide +kernel
theorem dX10_init_189 : decode cX10_init 189 = .ok (.iconst 2, 1) := by decide +kernel
theorem dX10_init_190 : decode cX10_init 190 = .ok (.bipush 101, 2) := by decide +kernel
theorem dX10_init_192 : decode cX10_init 192 = .ok (.iastore, 1) := by decide +kernel
theorem dX10_init_193 : decode cX10_init 193 = .ok (.dup, 1) := by decide +kernel
theorem dX10_init_194 : decode cX10_init 194 = .ok (.iconst 3, 1) := by decide +kernel
theorem dX10_init_195 : decode cX10_init 195 = .ok (.bipush 110, 2) := by decide +kernel
theorem dX10_init_197 : decode cX10_init 197 = .ok (.iastore, 1) := by decide +kernel
theorem dX10_init_198 : decode cX10_init 198 = .ok (.dup, 1) := by decide +kernel
theorem dX10_init_199 : decode cX10_init 199 = .ok (.iconst 4, 1) := by decide +kernel
theorem dX10_init_200 : decode cX10_init 200 = .ok (.bipush 100, 2) := by decide +kernel
theorem dX10_init_202 : decode cX10_init 202 = .ok (.iastore, 1) := by decide +kernel
theorem dX10_init_203 : decode cX10_init 203 = .ok (.dup, 1) := by decide +kernel
theorem dX10_init_204 : decode cX10_init 204 = .ok (.iconst 5, 1) := by decide +kernel
theorem dX10_init_205 : decode cX10_init 205 = .ok (.bipush 32, 2) := by decide +kernel
theorem dX10_init_207 : decode cX10_init 207 = .ok (.iastore, 1) := by decide +kernel
theorem dX10_init_208 : decode cX10_init 208 = .ok (.dup, 1) := by decide +kernel
theorem dX10_init_209 : decode cX10_init 209 = .ok (.bipush 6, 2) := by decide +kernel
theorem dX10_init_211 : decode cX10_init 211 = .ok (.bipush 109, 2) := by decide +kernel
theorem dX10_init_213 : decode cX10_init 213 = .ok (.iastore, 1) := by decide +kernel
theorem dX10_init_214 : decode cX10_init 214 = .ok (.dup, 1) := by decide +kernel
theorem dX10_init_215 : decode cX10_init 215 = .ok (.bipush 7, 2) := by decide +kernel
theorem dX10_init_217 : decode cX10_init 217 = .ok (.bipush 97, 2) := by decide +kernel
theorem dX10_init_219 : decode cX10_init 219 = .ok (.iastore, 1) := by decide +kernel
theorem dX10_init_220 : decode cX10_init 220 = .ok (.dup, 1) := by decide +kernel
theorem dX10_init_221 : decode cX10_init 221 = .ok (.bipush 8, 2) := by decide +kernel
theorem dX10_init_223 : decode cX10_init 223 = .ok (.bipush 115, 2) := by decide +kernel
theorem dX10_init_225 : decode cX10_init 225 = .ok (.iastore, 1) := by decide +kernel
theorem dX10_init_226 : decode cX10_init 226 = .ok (.dup, 1) := by decide +kernel
theorem dX10_init_227 : decode cX10_init 227 = .ok (.bipush 9, 2) := by decide +kernel
theorem dX10_init_229 : decode cX10_init 229 = .ok (.bipush 115, 2) := by decide +kernel
theorem dX10_init_231 : decode cX10_init 231 = .ok (.iastore, 1) := by decide +kernel
theorem dX10_init_232 : decode cX10_init 232 = .ok (.dup, 1) := by decide +kernel
theorem dX10_init_233 : decode cX10_init 233 = .ok (.bipush 10, 2) := by decide +kernel
theorem dX10_init_235 : decode cX10_init 235 = .ok (.bipush 32, 2) := by decide +kernel
theorem dX10_init_237 : decode cX10_init 237 = .ok (.iastore, 1) := by decide +kernel
theorem dX10_init_238 : decode cX10_init 238 = .ok (.dup, 1) := by decide +kernel
theorem dX10_init_239 : decode cX10_init 239 = .ok (.bipush 11, 2) := by decide +kernel
theorem dX10_init_241 : decode cX10_init 241 = .ok (.bipush 115, 2) := by decide +kernel
theorem dX10_init_243 : decode cX10_init 243 = .ok (.iastore, 1) := by decide +kernel
theorem dX10_init_244 : decode cX10_init 244 = .ok (.dup, 1) := by decide +kernel
theorem dX10_init_245 : decode cX10_init 245 = .ok (.bipush 12, 2) := by decide +kernel
theorem dX10_init_247 : decode cX10_init 247 = .ok (.bipush 119, 2) := by decide +kernel
theorem dX10_init_249 : decode cX10_init 249 = .ok (.iastore, 1) := by decide +kernel
theorem dX10_init_250 : decode cX10_init 250 = .ok (.dup, 1) := by decide +kernel
theorem dX10_init_251 : decode cX10_init 251 = .ok (.bipush 13, 2) := by decide +kernel
theorem dX10_init_253 : decode cX10_init 253 = .ok (.bipush 97, 2) := by decide +kernel
theorem dX10_init_255 : decode cX10_init 255 = .ok (.iastore, 1) := by decide +kernel
theorem dX10_init_256 : decode cX10_init 256 = .ok (.dup, 1) := by decide +kernel
theorem dX10_init_257 : decode cX10_init 257 = .ok (.bipush 14, 2) := by decide +kernel
theorem dX10_init_259 : decode cX10_init 259 = .ok (.bipush 121, 2) := by decide +kernel
theorem dX10_init_261 : decode cX10_init 261 = .ok (.iastore, 1) := by decide +kernel
theorem dX10_init_262 : decode cX10_init 262 = .ok (.dup, 1) := by decide +kernel
theorem dX10_init_263 : decode cX10_init 263 = .ok (.bipush 15, 2) := by decide +kernel
theorem dX10_init_265 : decode cX10_init 265 = .ok (.bipush 32, 2) := by decide +kernel
theorem dX10_init_267 : decode cX10_init 267 = .ok (.iastore, 1) := by decide +kernel
theorem dX10_init_268 : decode cX10_init 268 = .ok (.dup, 1) := by decide +kernel
theorem dX10_init_269 : decode cX10_init 269 = .ok (.bipush 16, 2) := by decide +kernel
theorem dX10_init_271 : decode cX10_init 271 = .ok (.bipush 100, 2) := by decide +kernel
theorem dX10_init_273 : decode cX10_init 273 = .ok (.iastore, 1) := by decide +kernel
theorem dX10_init_274 : decode cX10_init 274 = .ok (.dup, 1) := by decide +kernel
theorem dX10_init_275 : decode cX10_init 275 = .ok (.bipush 17, 2) := by decide +kernel
theorem dX10_init_277 : decode cX10_init 277 = .ok (.bipush 114, 2) := by decide +kernel
theorem dX10_init_279 : decode cX10_init 279 = .ok (.iastore, 1) := by decide +kernel
theorem dX10_init_280 : decode cX10_init 280 = .ok (.dup, 1) := by decide +kernel
theorem dX10_init_281 : decode cX10_init 281 = .ok (.bipush 18, 2) := by decide +kernel
theorem dX10_init_283 : decode cX10_init 283 = .ok (.bipush 105, 2) := by decide +kernel
theorem dX10_init_285 : decode cX10_init 285 = .ok (.iastore, 1) := by decide +kernel
theorem dX10_init_286 : decode cX10_init 286 = .ok (.dup, 1) := by decide +kernel
theorem dX10_init_287 : decode cX10_init 287 = .ok (.bipush 19, 2) := by decide +kernel
theorem dX10_init_289 : decode cX10_init 289 = .ok (.bipush 102, 2) := by decide +kernel
theorem dX10_init_291 : decode cX10_init 291 = .ok (.iastore, 1) := by decide +kernel
theorem dX10_init_292 : decode cX10_init 292 = .ok (.dup, 1) := by decide +kernel
theorem dX10_init_293 : decode cX10_init 293 = .ok (.bipush 20, 2) := by decide +kernel
theorem dX10_init_295 : decode cX10_init 295 = .ok (.bipush 116, 2) := by decide +kernel
theorem dX10_init_297 : decode cX10_init 297 = .ok (.iastore, 1) := by decide +kernel
theorem dX10_init_298 : decode cX10_init 298 = .ok (.dup, 1) := by decide +kernel
theorem dX10_init_299 : decode cX10_init 299 = .ok (.bipush 21, 2) := by decide +kernel
theorem dX10_init_301 : decode cX10_init 301 = .ok (.bipush 32, 2) := by decide +kernel
theorem dX10_init_303 : decode cX10_init 303 = .ok (.iastore, 1) := by decide +kernel
theorem dX10_init_304 : decode cX10_init 304 = .ok (.dup, 1) := by decide +kernel
theorem dX10_init_305 : decode cX10_init 305 = .ok (.bipush 22, 2) := by decide +kernel
theorem dX10_init_307 : decode cX10_init 307 = .ok (.bipush 115, 2) := by decide +kernel
theorem dX10_init_309 : decode cX10_init 309 = .ok (.iastore, 1) := by decide +kernel
theorem dX10_init_310 : decode cX10_init 310 = .ok (.dup, 1) := by decide +kernel
theorem dX10_init_311 : decode cX10_init 311 = .ok (.bipush 23, 2) := by decide +kernel
theorem dX10_init_313 : decode cX10_init 313 = .ok (.bipush 104, 2) := by decide +kernel
theorem dX10_init_315 : decode cX10_init 315 = .ok (.iastore, 1) := by decide +kernel
theorem dX10_init_316 : decode cX10_init 316 = .ok (.dup, 1) := by decide +kernel
theorem dX10_init_317 : decode cX10_init 317 = .ok (.bipush 24, 2) := by decide +kernel
theorem dX10_init_319 : decode cX10_init 319 = .ok (.bipush 97, 2) := by decide +kernel
theorem dX10_init_321 : decode cX10_init 321 = .ok (.iastore, 1) := by decide +kernel
theorem dX10_init_322 : decode cX10_init 322 = .ok (.dup, 1) := by decide +kernel
theorem dX10_init_323 : decode cX10_init 323 = .ok (.bipush 25, 2) := by decide +kernel
theorem dX10_init_325 : decode cX10_init 325 = .ok (.bipush 118, 2) := by decide +kernel
theorem dX10_init_327 : decode cX10_init 327 = .ok (.iastore, 1) := by decide +kernel
theorem dX10_init_328 : decode cX10_init 328 = .ok (.dup, 1) := by decide +kernel
theorem dX10_init_329 : decode cX10_init 329 = .ok (.bipush 26, 2) := by decide +kernel
theorem dX10_init_331 : decode cX10_init 331 = .ok (.bipush 101, 2) := by decide +kernel
theorem dX10_init_333 : decode cX10_init 333 = .ok (.iastore, 1) := by decide +kernel
theorem dX10_init_334 : decode cX10_init 334 = .ok (.dup, 1) := by decide +kernel
theorem dX10_init_335 : decode cX10_init 335 = .ok (.bipush 27, 2) := by decide +kernel
theorem dX10_init_337 : decode cX10_init 337 = .ok (.bipush 32, 2) := by decide +kernel
theorem dX10_init_339 : decode cX10_init 339 = .ok (.iastore, 1) := by decide +kernel
theorem dX10_init_340 : decode cX10_init 340 = .ok (.dup, 1) := by decide +kernel
theorem dX10_init_341 : decode cX10_init 341 = .ok (.bipush 28, 2) := by decide +kernel
theorem dX10_init_343 : decode cX10_init 343 = .ok (.bipush 97, 2) := by decide +kernel
theorem dX10_init_345 : decode cX10_init 345 = .ok (.iastore, 1) := by decide +kernel
theorem dX10_init_346 : decode cX10_init 346 = .ok (.dup, 1) := by decide +kernel
theorem dX10_init_347 : decode cX10_init 347 = .ok (.bipush 29, 2) := by decide +kernel
theorem dX10_init_349 : decode cX10_init 349 = .ok (.bipush 114, 2) := by decide +kernel
theorem dX10_init_351 : decode cX10_init 351 = .ok (.iastore, 1) := by decide +kernel
theorem dX10_init_352 : decode cX10_init 352 = .ok (.dup, 1) := by decide +kernel
theorem dX10_init_353 : decode cX10_init 353 = .ok (.bipush 30, 2) := by decide +kernel
theorem dX10_init_355 : decode cX10_init 355 = .ok (.bipush 99, 2) := by decide +kernel
theorem dX10_init_357 : decode cX10_init 357 = .ok (.iastore, 1) := by decide +kernel
theorem dX10_init_358 : decode cX10_init 358 = .ok (.dup, 1) := by decide +kernel
theorem dX10_init_359 : decode cX10_init 359 = .ok (.bipush 31, 2) := by decide +kernel
theorem dX10_init_361 : decode cX10_init 361 = .ok (.bipush 32, 2) := by decide +kernel
theorem dX10_init_363 : decode cX10_init 363 = .ok (.iastore, 1) := by decide +kernel
theorem dX10_init_364 : decode cX10_init 364 = .ok (.dup, 1) := by decide +kernel
theorem dX10_init_365 : decode cX10_init 365 = .ok (.bipush 32, 2) := by decide +kernel
theorem dX10_init_367 : decode cX10_init 367 = .ok (.bipush 119, 2) := by decide +kernel
theorem dX10_init_369 : decode cX10_init 369 = .ok (.iastore, 1) := by decide +kernel
theorem dX10_init_370 : decode cX10_init 370 = .ok (.dup, 1) := by decide +kernel
theorem dX10_init_371 : decode cX10_init 371 = .ok (.bipush 33, 2) := by decide +kernel
theorem dX10_init_373 : decode cX10_init 373 = .ok (.bipush 104, 2) := by decide +kernel
theorem dX10_init_375 : decode cX10_init 375 = .ok (.iastore, 1) := by decide +kernel
theorem dX10_init_376 : decode cX10_init 376 = .ok (.dup, 1) := by decide +kernel
theorem dX10_init_377 : decode cX10_init 377 = .ok (.bipush 34, 2) := by decide +kernel
theorem dX10_init_379 : decode cX10_init 379 = .ok (.bipush 101, 2) := by decide +kernel
theorem dX10_init_381 : decode cX10_init 381 = .ok (.iastore, 1) := by decide +kernel
theorem dX10_init_382 : decode cX10_init 382 = .ok (.dup, 1) := by decide +kernel
theorem dX10_init_383 : decode cX10_init 383 = .ok (.bipush 35, 2) := by decide +kernel
theorem dX10_init_385 : decode cX10_init 385 = .ok (.bipush 110, 2) := by decide +kernel
theorem dX10_init_387 : decode cX10_init 387 = .ok (.iastore, 1) := by decide +kernel
theorem dX10_init_388 : decode cX10_init 388 = .ok (.dup, 1) := by decide +kernel
theorem dX10_init_389 : decode cX10_init 389 = .ok (.bipush 36, 2) := by decide +kernel
theorem dX10_init_391 : decode cX10_init 391 = .ok (.bipush 32, 2) := by decide +kernel
theorem dX10_init_393 : decode cX10_init 393 = .ok (.iastore, 1) := by decide +kernel
theorem dX10_init_394 : decode cX10_init 394 = .ok (.dup, 1) := by decide +kernel
theorem dX10_init_395 : decode cX10_init 395 = .ok (.bipush 37, 2) := by decide +kernel
theorem dX10_init_397 : decode cX10_init 397 = .ok (.bipush 111, 2) := by decide +kernel
theorem dX10_init_399 : decode cX10_init 399 = .ok (.iastore, 1) := by decide +kernel
theorem dX10_init_400 : decode cX10_init 400 = .ok (.dup, 1) := by decide +kernel
theorem dX10_init_401 : decode cX10_init 401 = .ok (.bipush 38, 2) := by decide +kernel
theorem dX10_init_403 : decode cX10_init 403 = .ok (.bipush 114, 2) := by decide +kernel
theorem dX10_init_405 : decode cX10_init 405 = .ok (.iastore, 1) := by decide +kernel
theorem dX10_init_406 : decode cX10_init 406 = .ok (.dup, 1) := by decide +kernel
theorem dX10_init_407 : decode cX10_init 407 = .ok (.bipush 39, 2) := by decide +kernel
theorem dX10_init_409 : decode cX10_init 409 = .ok (.bipush 32, 2) := by decide +kernel
theorem dX10_init_411 : decode cX10_init 411 = .ok (.iastore, 1) := by decide +kernel
theorem dX10_init_412 : decode cX10_init 412 = .ok (.dup, 1) := by decide +kernel
theorem dX10_init_413 : decode cX10_init 413 = .ok (.bipush 40, 2) := by decide +kernel
theorem dX10_init_415 : decode cX10_init 415 = .ok (.bipush 97, 2) := by decide +kernel
theorem dX10_init_417 : decode cX10_init 417 = .ok (.iastore, 1) := by decide +kernel
theorem dX10_init_418 : decode cX10_init 418 = .ok (.dup, 1) := by decide +kernel
theorem dX10_init_419 : decode cX10_init 419 = .ok (.bipush 41, 2) := by decide +kernel
theorem dX10_init_421 : decode cX10_init 421 = .ok (.bipush 110, 2) := by decide +kernel
theorem dX10_init_423 : decode cX10_init 423 = .ok (.iastore, 1) := by decide +kernel
theorem dX10_init_424 : decode cX10_init 424 = .ok (.dup, 1) := by decide +kernel
theorem dX10_init_425 : decode cX10_init 425 = .ok (.bipush 42, 2) := by decide +kernel
theorem dX10_init_427 : decode cX10_init 427 = .ok (.bipush 100, 2) := by decide +kernel
theorem dX10_init_429 : decode cX10_init 429 = .ok (.iastore, 1) := by decide +kernel
theorem dX10_init_430 : decode cX10_init 430 = .ok (.dup, 1) := by decide +kernel
theorem dX10_init_431 : decode cX10_init 431 = .ok (.bipush 43, 2) := by decide +kernel
theorem dX10_init_433 : decode cX10_init 433 = .ok (.bipush 32, 2) := by decide +kernel
theorem dX10_init_435 : decode cX10_init 435 = .ok (.iastore, 1) := by decide +kernel
theorem dX10_init_436 : decode cX10_init 436 = .ok (.dup, 1) := by decide +kernel
theorem dX10_init_437 : decode cX10_init 437 = .ok (.bipush 44, 2) := by decide +kernel
theorem dX10_init_439 : decode cX10_init 439 = .ok (.bipush 110, 2) := by decide +kernel
theorem dX10_init_441 : decode cX10_init 441 = .ok (.iastore, 1) := by decide +kernel
theorem dX10_init_442 : decode cX10_init 442 = .ok (.dup, 1) := by decide +kernel
theorem dX10_init_443 : decode cX10_init 443 = .ok (.bipush 45, 2) := by decide +kernel
theorem dX10_init_445 : decode cX10_init 445 = .ok (.bipush 111, 2) := by decide +kernel
theorem dX10_init_447 : decode cX10_init 447 = .ok (.iastore, 1) := by decide +kernel
theorem dX10_init_448 : decode cX10_init 448 = .ok (.dup, 1) := by decide +kernel
theorem dX10_init_449 : decode cX10_init 449 = .ok (.bipush 46, 2) := by decide +kernel
theorem dX10_init_451 : decode cX10_init 451 = .ok (.bipush 116, 2) := by decide +kernel
theorem dX10_init_453 : decode cX10_init 453 = .ok (.iastore, 1) := by decide +kernel
theorem dX10_init_454 : decode cX10_init 454 = .ok (.dup, 1) := by decide +kernel
theorem dX10_init_455 : decode cX10_init 455 = .ok (.bipush 47, 2) := by decide +kernel
theorem dX10_init_457 : decode cX10_init 457 = .ok (.bipush 32, 2) := by decide +kernel
theorem dX10_init_459 : decode cX10_init 459 = .ok (.iastore, 1) := by decide +kernel
theorem dX10_init_460 : decode cX10_init 460 = .ok (.dup, 1) := by decide +kernel
theorem dX10_init_461 : decode cX10_init 461 = .ok (.bipush 48, 2) := by decide +kernel
theorem dX10_init_463 : decode cX10_init 463 = .ok (.bipush 97, 2) := by decide +kernel
theorem dX10_init_465 : decode cX10_init 465 = .ok (.iastore, 1) := by decide +kernel
theorem dX10_init_466 : decode cX10_init 466 = .ok (.dup, 1) := by decide +kernel
theorem dX10_init_467 : decode cX10_init 467 = .ok (.bipush 49, 2) := by decide +kernel
theorem dX10_init_469 : decode cX10_init 469 = .ok (.bipush 116, 2) := by decide +kernel
theorem dX10_init_471 : decode cX10_init 471 = .ok (.iastore, 1) := by decide +kernel
theorem dX10_init_472 : decode cX10_init 472 = .ok (.dup, 1) := by decide +kernel
theorem dX10_init_473 : decode cX10_init 473 = .ok (.bipush 50, 2) := by decide +kernel
theorem dX10_init_475 : decode cX10_init 475 = .ok (.bipush 32, 2) := by decide +kernel
theorem dX10_init_477 : decode cX10_init 477 = .ok (.iastore, 1) := by decide +kernel
theorem dX10_init_478 : decode cX10_init 478 = .ok (.dup, 1) := by decide +kernel
theorem dX10_init_479 : decode cX10_init 479 = .ok (.bipush 51, 2) := by decide +kernel
theorem dX10_init_481 : decode cX10_init 481 = .ok (.bipush 115, 2) := by decide +kernel
theorem dX10_init_483 : decode cX10_init 483 = .ok (.iastore, 1) := by decide +kernel
theorem dX10_init_484 : decode cX10_init 484 = .ok (.dup, 1) := by decide +kernel
theorem dX10_init_485 : decode cX10_init 485 = .ok (.bipush 52, 2) := by decide +kernel
theorem dX10_init_487 : decode cX10_init 487 = .ok (.bipush 105, 2) := by decide +kernel
theorem dX10_init_489 : decode cX10_init 489 = .ok (.iastore, 1) := by decide +kernel
theorem dX10_init_490 : decode cX10_init 490 = .ok (.dup, 1) := by decide +kernel
theorem dX10_init_491 : decode cX10_init 491 = .ok (.bipush 53, 2) := by decide +kernel
theorem dX10_init_493 : decode cX10_init 493 = .ok (.bipush 122, 2) := by decide +kernel
theorem dX10_init_495 : decode cX10_init 495 = .ok (.iastore, 1) := by decide +kernel
theorem dX10_init_496 : decode cX10_init 496 = .ok (.dup, 1) := by decide +kernel
theorem dX10_init_497 : decode cX10_init 497 = .ok (.bipush 54, 2) := by decide +kernel
theorem dX10_init_499 : decode cX10_init 499 = .ok (.bipush 101, 2) := by decide +kernel
theorem dX10_init_501 : decode cX10_init 501 = .ok (.iastore, 1) := by decide +kernel
theorem dX10_init_502 : decode cX10_init 502 = .ok (.dup, 1) := by decide +kernel
theorem dX10_init_503 : decode cX10_init 503 = .ok (.bipush 55, 2) := by decide +kernel
theorem dX10_init_505 : decode cX10_init 505 = .ok (.bipush 32, 2) := by decide +kernel
theorem dX10_init_507 : decode cX10_init 507 = .ok (.iastore, 1) := by decide +kernel
theorem dX10_init_508 : decode cX10_init 508 = .ok (.dup, 1) := by decide +kernel
theorem dX10_init_509 : decode cX10_init 509 = .ok (.bipush 56, 2) := by decide +kernel
theorem dX10_init_511 : decode cX10_init 511 = .ok (.bipush 109, 2) := by decide +kernel
theorem dX10_init_513 : decode cX10_init 513 = .ok (.iastore, 1) := by decide +kernel
theorem dX10_init_514 : decode cX10_init 514 = .ok (.dup, 1) := by decide +kernel
theorem dX10_init_515 : decode cX10_init 515 = .ok (.bipush 57, 2) := by decide +kernel
theorem dX10_init_517 : decode cX10_init 517 = .ok (.bipush 105, 2) := by decide +kernel
theorem dX10_init_519 : decode cX10_init 519 = .ok (.iastore, 1) := by decide +kernel
theorem dX10_init_520 : decode cX10_init 520 = .ok (.dup, 1) := by decide +kernel
theorem dX10_init_521 : decode cX10_init 521 = .ok (.bipush 58, 2) := by decide +kernel
theorem dX10_init_523 : decode cX10_init 523 = .ok (.bipush 100, 2) := by decide +kernel
theorem dX10_init_525 : decode cX10_init 525 = .ok (.iastore, 1) := by decide +kernel
theorem dX10_init_526 : decode cX10_init 526 = .ok (.dup, 1) := by decide +kernel
theorem dX10_init_527 : decode cX10_init 527 = .ok (.bipush 59, 2) := by decide +kernel
theorem dX10_init_529 : decode cX10_init 529 = .ok (.bipush 32, 2) := by decide +kernel
theorem dX10_init_531 : decode cX10_init 531 = .ok (.iastore, 1) := by decide +kernel
theorem dX10_init_532 : decode cX10_init 532 = .ok (.dup, 1) := by decide +kernel
theorem dX10_init_533 : decode cX10_init 533 = .ok (.bipush 60, 2) := by decide +kernel
theorem dX10_init_535 : decode cX10_init 535 = .ok (.bipush 101, 2) := by decide +kernel
theorem dX10_init_537 : decode cX10_init 537 = .ok (.iastore, 1) := by decide +kernel
theorem dX10_init_538 : decode cX10_init 538 = .ok (.dup, 1) := by decide +kernel
theorem dX10_init_539 : decode cX10_init 539 = .ok (.bipush 61, 2) := by decide +kernel
theorem dX10_init_541 : decode cX10_init 541 = .ok (.bipush 110, 2) := by decide +kernel
theorem dX10_init_543 : decode cX10_init 543 = .ok (.iastore, 1) := by decide +kernel
theorem dX10_init_544 : decode cX10_init 544 = .ok (.dup, 1) := by decide +kernel
theorem dX10_init_545 : decode cX10_init 545 = .ok (.bipush 62, 2) := by decide +kernel
theorem dX10_init_547 : decode cX10_init 547 = .ok (.bipush 100, 2) := by decide +kernel
theorem dX10_init_549 : decode cX10_init 549 = .ok (.iastore, 1) := by decide +kernel
theorem dX10_init_550 : decode cX10_init 550 = .ok (.dup, 1) := by decide +kernel
theorem dX10_init_551 : decode cX10_init 551 = .ok (.bipush 63, 2) := by decide +kernel
theorem dX10_init_553 : decode cX10_init 553 = .ok (.bipush 32, 2) := by decide +kernel
theorem dX10_init_555 : decode cX10_init 555 = .ok (.iastore, 1) := by decide +kernel
theorem dX10_init_556 : decode cX10_init 556 = .ok (.dup, 1) := by decide +kernel
theorem dX10_init_557 : decode cX10_init 557 = .ok (.bipush 64, 2) := by decide +kernel
theorem dX10_init_559 : decode cX10_init 559 = .ok (.bipush 116, 2) := by decide +kernel
theorem dX10_init_561 : decode cX10_init 561 = .ok (.iastore, 1) := by decide +kernel
theorem dX10_init_562 : decode cX10_init 562 = .ok (.dup, 1) := by decide +kernel
theorem dX10_init_563 : decode cX10_init 563 = .ok (.bipush 65, 2) := by decide +kernel
theorem dX10_init_565 : decode cX10_init 565 = .ok (.bipush 104, 2) := by decide +kernel
theorem dX10_init_567 : decode cX10_init 567 = .ok (.iastore, 1) := by decide +kernel
theorem dX10_init_568 : decode cX10_init 568 = .ok (.dup, 1) := by decide +kernel
theorem dX10_init_569 : decode cX10_init 569 = .ok (.bipush 66, 2) := by decide +kernel
theorem dX10_init_571 : decode cX10_init 571 = .ok (.bipush 105, 2) := by decide +kernel
theorem dX10_init_573 : decode cX10_init 573 = .ok (.iastore, 1) := by decide +kernel
theorem dX10_init_574 : decode cX10_init 574 = .ok (.dup, 1) := by decide +kernel
theorem dX10_init_575 : decode cX10_init 575 = .ok (.bipush 67, 2) := by decide +kernel
theorem dX10_init_577 : decode cX10_init 577 = .ok (.bipush 99, 2) := by decide +kernel
theorem dX10_init_579 : decode cX10_init 579 = .ok (.iastore, 1) := by decide +kernel
theorem dX10_init_580 : decode cX10_init 580 = .ok (.dup, 1) := by decide +kernel
theorem dX10_init_581 : decode cX10_init 581 = .ok (.bipush 68, 2) := by decide +kernel
theorem dX10_init_583 : decode cX10_init 583 = .ok (.bipush 107, 2) := by decide +kernel
theorem dX10_init_585 : decode cX10_init 585 = .ok (.iastore, 1) := by decide +kernel
theorem dX10_init_586 : decode cX10_init 586 = .ok (.dup, 1) := by decide +kernel
theorem dX10_init_587 : decode cX10_init 587 = .ok (.bipush 69, 2) := by decide +kernel
theorem dX10_init_589 : decode cX10_init 589 = .ok (.bipush 32, 2) := by decide +kernel
theorem dX10_init_591 : decode cX10_init 591 = .ok (.iastore, 1) := by decide +kernel
theorem dX10_init_592 : decode cX10_init 592 = .ok (.dup, 1) := by decide +kernel
theorem dX10_init_593 : decode cX10_init 593 = .ok (.bipush 70, 2) := by decide +kernel
theorem dX10_init_595 : decode cX10_init 595 = .ok (.bipush 103, 2) := by decide +kernel
theorem dX10_init_597 : decode cX10_init 597 = .ok (.iastore, 1) := by decide +kernel
theorem dX10_init_598 : decode cX10_init 598 = .ok (.dup, 1) := by decide +kernel
theorem dX10_init_599 : decode cX10_init 599 = .ok (.bipush 71, 2) := by decide +kernel
theorem dX10_init_601 : decode cX10_init 601 = .ok (.bipush 114, 2) := by decide +kernel
theorem dX10_init_603 : decode cX10_init 603 = .ok (.iastore, 1) := by decide +kernel
theorem dX10_init_604 : decode cX10_init 604 = .ok (.dup, 1) := by decide +kernel
theorem dX10_init_605 : decode cX10_init 605 = .ok (.bipush 72, 2) := by decide +kernel
theorem dX10_init_607 : decode cX10_init 607 = .ok (.bipush 97, 2) := by decide +kernel
theorem dX10_init_609 : decode cX10_init 609 = .ok (.iastore, 1) := by decide +kernel
theorem dX10_init_610 : decode cX10_init 610 = .ok (.dup, 1) := by decide +kernel
theorem dX10_init_611 : decode cX10_init 611 = .ok (.bipush 73, 2) := by decide +kernel
theorem dX10_init_613 : decode cX10_init 613 = .ok (.bipush 105, 2) := by decide +kernel
theorem dX10_init_615 : decode cX10_init 615 = .ok (.iastore, 1) := by decide +kernel
theorem dX10_init_616 : decode cX10_init 616 = .ok (.dup, 1) := by decide +kernel
theorem dX10_init_617 : decode cX10_init 617 = .ok (.bipush 74, 2) := by decide +kernel
theorem dX10_init_619 : decode cX10_init 619 = .ok (.bipush 110, 2) := by decide +kernel
theorem dX10_init_621 : decode cX10_init 621 = .ok (.iastore, 1) := by decide +kernel
theorem dX10_init_622 : decode cX10_init 622 = .ok (.dup, 1) := by decide +kernel
theorem dX10_init_623 : decode cX10_init 623 = .ok (.bipush 75, 2) := by decide +kernel
theorem dX10_init_625 : decode cX10_init 625 = .ok (.bipush 32, 2) := by decide +kernel
theorem dX10_init_627 : decode cX10_init 627 = .ok (.iastore, 1) := by decide +kernel
theorem dX10_init_628 : decode cX10_init 628 = .ok (.dup, 1) := by decide +kernel
theorem dX10_init_629 : decode cX10_init 629 = .ok (.bipush 76, 2) := by decide +kernel
theorem dX10_init_631 : decode cX10_init 631 = .ok (.bipush 104, 2) := by decide +kernel
theorem dX10_init_633 : decode cX10_init 633 = .ok (.iastore, 1) := by decide +kernel
theorem dX10_init_634 : decode cX10_init 634 = .ok (.dup, 1) := by decide +kernel
theorem dX10_init_635 : decode cX10_init 635 = .ok (.bipush 77, 2) := by decide +kernel
theorem dX10_init_637 : decode cX10_init 637 = .ok (.bipush 101, 2) := by decide +kernel
theorem dX10_init_639 : decode cX10_init 639 = .ok (.iastore, 1) := by decide +kernel
theorem dX10_init_640 : decode cX10_init 640 = .ok (.dup, 1) := by decide +kernel
theorem dX10_init_641 : decode cX10_init 641 = .ok (.bipush 78, 2) := by decide +kernel
theorem dX10_init_643 : decode cX10_init 643 = .ok (.bipush 97, 2) := by decide +kernel
theorem dX10_init_645 : decode cX10_init 645 = .ok (.iastore, 1) := by decide +kernel
theorem dX10_init_646 : decode cX10_init 646 = .ok (.dup, 1) := by decide +kernel
theorem dX10_init_647 : decode cX10_init 647 = .ok (.bipush 79, 2) := by decide +kernel
theorem dX10_init_649 : decode cX10_init 649 = .ok (.bipush 118, 2) := by decide +kernel
theorem dX10_init_651 : decode cX10_init 651 = .ok (.iastore, 1) := by decide +kernel
theorem dX10_init_652 : decode cX10_init 652 = .ok (.dup, 1) := by decide +kernel
theorem dX10_init_653 : decode cX10_init 653 = .ok (.bipush 80, 2) := by decide +kernel
theorem dX10_init_655 : decode cX10_init 655 = .ok (.bipush 121, 2) := by decide +kernel
theorem dX10_init_657 : decode cX10_init 657 = .ok (.iastore, 1) := by decide +kernel
theorem dX10_init_658 : decode cX10_init 658 = .ok (.dup, 1) := by decide +kernel
theorem dX10_init_659 : decode cX10_init 659 = .ok (.bipush 81, 2) := by decide +kernel
theorem dX10_init_661 : decode cX10_init 661 = .ok (.bipush 32, 2) := by decide +kernel
theorem dX10_init_663 : decode cX10_init 663 = .ok (.iastore, 1) := by decide +kernel
theorem dX10_init_664 : decode cX10_init 664 = .ok (.dup, 1) := by decide +kernel
theorem dX10_init_665 : decode cX10_init 665 = .ok (.bipush 82, 2) := by decide +kernel
theorem dX10_init_667 : decode cX10_init 667 = .ok (.bipush 119, 2) := by decide +kernel
theorem dX10_init_669 : decode cX10_init 669 = .ok (.iastore, 1) := by decide +kernel
theorem dX10_init_670 : decode cX10_init 670 = .ok (.dup, 1) := by decide +kernel
theorem dX10_init_671 : decode cX10_init 671 = .ok (.bipush 83, 2) := by decide +kernel
theorem dX10_init_673 : decode cX10_init 673 = .ok (.bipush 97, 2) := by decide +kernel
theorem dX10_init_675 : decode cX10_init 675 = .ok (.iastore, 1) := by decide +kernel
theorem dX10_init_676 : decode cX10_init 676 = .ok (.dup, 1) := by decide +kernel
theorem dX10_init_677 : decode cX10_init 677 = .ok (.bipush 84, 2) := by decide +kernel
theorem dX10_init_679 : decode cX10_init 679 = .ok (.bipush 120, 2) := by decide +kernel
theorem dX10_init_681 : decode cX10_init 681 = .ok (.iastore, 1) := by decide +kernel
theorem dX10_init_682 : decode cX10_init 682 = .ok (.dup, 1) := by decide +kernel
theorem dX10_init_683 : decode cX10_init 683 = .ok (.bipush 85, 2) := by decide +kernel
theorem dX10_init_685 : decode cX10_init 685 = .ok (.bipush 32, 2) := by decide +kernel
theorem dX10_init_687 : decode cX10_init 687 = .ok (.iastore, 1) := by decide +kernel
theorem dX10_init_688 : decode cX10_init 688 = .ok (.dup, 1) := by decide +kernel
theorem dX10_init_689 : decode cX10_init 689 = .ok (.bipush 86, 2) := by decide +kernel
theorem dX10_init_691 : decode cX10_init 691 = .ok (.bipush 104, 2) := by decide +kernel
theorem dX10_init_693 : decode cX10_init 693 = .ok (.iastore, 1) := by decide +kernel
theorem dX10_init_694 : decode cX10_init 694 = .ok (.dup, 1) := by decide +kernel
theorem dX10_init_695 : decode cX10_init 695 = .ok (.bipush 87, 2) := by decide +kernel
theorem dX10_init_697 : decode cX10_init 697 = .ok (.bipush 101, 2) := by decide +kernel
theorem dX10_init_699 : decode cX10_init 699 = .ok (.iastore, 1) := by decide +kernel
theorem dX10_init_700 : decode cX10_init 700 = .ok (.dup, 1) := by decide +kernel
theorem dX10_init_701 : decode cX10_init 701 = .ok (.bipush 88, 2) := by decide +kernel
theorem dX10_init_703 : decode cX10_init 703 = .ok (.bipush 97, 2) := by decide +kernel
theorem dX10_init_705 : decode cX10_init 705 = .ok (.iastore, 1) := by decide +kernel
theorem dX10_init_706 : decode cX10_init 706 = .ok (.dup, 1) := by decide +kernel
theorem dX10_init_707 : decode cX10_init 707 = .ok (.bipush 89, 2) := by decide +kernel
theorem dX10_init_709 : decode cX10_init 709 = .ok (.bipush 116, 2) := by decide +kernel
theorem dX10_init_711 : decode cX10_init 711 = .ok (.iastore, 1) := by decide +kernel
theorem dX10_init_712 : decode cX10_init 712 = .ok (.dup, 1) := by decide +kernel
theorem dX10_init_713 : decode cX10_init 713 = .ok (.bipush 90, 2) := by decide +kernel
theorem dX10_init_715 : decode cX10_init 715 = .ok (.bipush 32, 2) := by decide +kernel
theorem dX10_init_717 : decode cX10_init 717 = .ok (.iastore, 1) := by decide +kernel
theorem dX10_init_718 : decode cX10_init 718 = .ok (.dup, 1) := by decide +kernel
theorem dX10_init_719 : decode cX10_init 719 = .ok (.bipush 91, 2) := by decide +kernel
theorem dX10_init_721 : decode cX10_init 721 = .ok (.bipush 119, 2) := by decide +kernel
theorem dX10_init_723 : decode cX10_init 723 = .ok (.iastore, 1) := by decide +kernel
theorem dX10_init_724 : decode cX10_init 724 = .ok (.dup, 1) := by decide +kernel
theorem dX10_init_725 : decode cX10_init 725 = .ok (.bipush 92, 2) := by decide +kernel
theorem dX10_init_727 : decode cX10_init 727 = .ok (.bipush 101, 2) := by decide +kernel
theorem dX10_init_729 : decode cX10_init 729 = .ok (.iastore, 1) := by decide +kernel
theorem dX10_init_730 : decode cX10_init 730 = .ok (.dup, 1) := by decide +kernel
theorem dX10_init_731 : decode cX10_init 731 = .ok (.bipush 93, 2) := by decide +kernel
theorem dX10_init_733 : decode cX10_init 733 = .ok (.bipush 116, 2) := by decide +kernel
theorem dX10_init_735 : decode cX10_init 735 = .ok (.iastore, 1) := by decide +kernel
theorem dX10_init_736 : decode cX10_init 736 = .ok (.dup, 1) := by decide +kernel
theorem dX10_init_737 : decode cX10_init 737 = .ok (.bipush 94, 2) := by decide +kernel
theorem dX10_init_739 : decode cX10_init 739 = .ok (.bipush 32, 2) := by decide +kernel
theorem dX10_init_741 : decode cX10_init 741 = .ok (.iastore, 1) := by decide +kernel
theorem dX10_init_742 : decode cX10_init 742 = .ok (.dup, 1) := by decide +kernel
theorem dX10_init_743 : decode cX10_init 743 = .ok (.bipush 95, 2) := by decide +kernel
theorem dX10_init_745 : decode cX10_init 745 = .ok (.bipush 108, 2) := by decide +kernel
theorem dX10_init_747 : decode cX10_init 747 = .ok (.iastore, 1) := by decide +kernel
theorem dX10_init_748 : decode cX10_init 748 = .ok (.dup, 1) := by decide +kernel
theorem dX10_init_749 : decode cX10_init 749 = .ok (.bipush 96, 2) := by decide +kernel
theorem dX10_init_751 : decode cX10_init 751 = .ok (.bipush 111, 2) := by decide +kernel
theorem dX10_init_753 : decode cX10_init 753 = .ok (.iastore, 1) := by decide +kernel
theorem dX10_init_754 : decode cX10_init 754 = .ok (.dup, 1) := by decide +kernel
theorem dX10_init_755 : decode cX10_init 755 = .ok (.bipush 97, 2) := by decide +kernel
theorem dX10_init_757 : decode cX10_init 757 = .ok (.bipush 119, 2) := by decide +kernel
theorem dX10_init_759 : decode cX10_init 759 = .ok (.iastore, 1) := by decide +kernel
theorem dX10_init_760 : decode cX10_init 760 = .ok (.dup, 1) := by decide +kernel
theorem dX10_init_761 : decode cX10_init 761 = .ok (.bipush 98, 2) := by decide +kernel
theorem dX10_init_763 : decode cX10_init 763 = .ok (.bipush 32, 2) := by decide +kernel
theorem dX10_init_765 : decode cX10_init 765 = .ok (.iastore, 1) := by decide +kernel
theorem dX10_init_766 : decode cX10_init 766 = .ok (.dup, 1) := by decide +kernel
theorem dX10_init_767 : decode cX10_init 767 = .ok (.bipush 99, 2) := by decide +kernel
theorem dX10_init_769 : decode cX10_init 769 = .ok (.bipush 104, 2) := by decide +kernel
theorem dX10_init_771 : decode cX10_init 771 = .ok (.iastore, 1) := by decide +kernel
theorem dX10_init_772 : decode cX10_init 772 = .ok (.dup, 1) := by decide +kernel
theorem dX10_init_773 : decode cX10_init 773 = .ok (.bipush 100, 2) := by decide +kernel
theorem dX10_init_775 : decode cX10_init 775 = .ok (.bipush 105, 2) := by decide +kernel
theorem dX10_init_777 : decode cX10_init 777 = .ok (.iastore, 1) := by decide +kernel
theorem dX10_init_778 : decode cX10_init 778 = .ok (.dup, 1) := by decide +kernel
theorem dX10_init_779 : decode cX10_init 779 = .ok (.bipush 101, 2) := by decide +kernel
theorem dX10_init_781 : decode cX10_init 781 = .ok (.bipush 103, 2) := by decide +kernel
theorem dX10_init_783 : decode cX10_init 783 = .ok (.iastore, 1) := by decide +kernel
theorem dX10_init_784 : decode cX10_init 784 = .ok (.dup, 1) := by decide +kernel
theorem dX10_init_785 : decode cX10_init 785 = .ok (.bipush 102, 2) := by decide +kernel
theorem dX10_init_787 : decode cX10_init 787 = .ok (.bipush 104, 2) := by decide +kernel
theorem dX10_init_789 : decode cX10_init 789 = .ok (.iastore, 1) := by decide +kernel
theorem dX10_init_790 : decode cX10_init 790 = .ok (.dup, 1) := by decide +kernel
theorem dX10_init_791 : decode cX10_init 791 = .ok (.bipush 103, 2) := by decide +kernel
theorem dX10_init_793 : decode cX10_init 793 = .ok (.bipush 32, 2) := by decide +kernel
theorem dX10_init_795 : decode cX10_init 795 = .ok (.iastore, 1) := by decide +kernel
theorem dX10_init_796 : decode cX10_init 796 = .ok (.dup, 1) := by decide +kernel
theorem dX10_init_797 : decode cX10_init 797 = .ok (.bipush 104, 2) := by decide +kernel
theorem dX10_init_799 : decode cX10_init 799 = .ok (.bipush 116, 2) := by decide +kernel
theorem dX10_init_801 : decode cX10_init 801 = .ok (.iastore, 1) := by decide +kernel
theorem dX10_init_802 : decode cX10_init 802 = .ok (.dup, 1) := by decide +kernel
theorem dX10_init_803 : decode cX10_init 803 = .ok (.bipush 105, 2) := by decide +kernel
theorem dX10_init_805 : decode cX10_init 805 = .ok (.bipush 111, 2) := by decide +kernel
theorem dX10_init_807 : decode cX10_init 807 = .ok (.iastore, 1) := by decide +kernel
theorem dX10_init_808 : decode cX10_init 808 = .ok (.dup, 1) := by decide +kernel
theorem dX10_init_809 : decode cX10_init 809 = .ok (.bipush 106, 2) := by decide +kernel
theorem dX10_init_811 : decode cX10_init 811 = .ok (.bipush 112, 2) := by decide +kernel
theorem dX10_init_813 : decode cX10_init 813 = .ok (.iastore, 1) := by decide +kernel
theorem dX10_init_814 : decode cX10_init 814 = .ok (.dup, 1) := by decide +kernel
theorem dX10_init_815 : decode cX10_init 815 = .ok (.bipush 107, 2) := by decide +kernel
theorem dX10_init_817 : decode cX10_init 817 = .ok (.bipush 32, 2) := by decide +kernel
theorem dX10_init_819 : decode cX10_init 819 = .ok (.iastore, 1) := by decide +kernel
theorem dX10_init_820 : decode cX10_init 820 = .ok (.dup, 1) := by decide +kernel
theorem dX10_init_821 : decode cX10_init 821 = .ok (.bipush 108, 2) := by decide +kernel
theorem dX10_init_823 : decode cX10_init 823 = .ok (.bipush 112, 2) := by decide +kernel
theorem dX10_init_825 : decode cX10_init 825 = .ok (.iastore, 1) := by decide +kernel
theorem dX10_init_826 : decode cX10_init 826 = .ok (.dup, 1) := by decide +kernel
theorem dX10_init_827 : decode cX10_init 827 = .ok (.bipush 109, 2) := by decide +kernel
theorem dX10_init_829 : decode cX10_init 829 = .ok (.bipush 97, 2) := by decide +kernel
theorem dX10_init_831 : decode cX10_init 831 = .ok (.iastore, 1) := by decide +kernel
theorem dX10_init_832 : decode cX10_init 832 = .ok (.dup, 1) := by decide +kernel
theorem dX10_init_833 : decode cX10_init 833 = .ok (.bipush 110, 2) := by decide +kernel
theorem dX10_init_835 : decode cX10_init 835 = .ok (.bipush 115, 2) := by decide +kernel
theorem dX10_init_837 : decode cX10_init 837 = .ok (.iastore, 1) := by decide +kernel
theorem dX10_init_838 : decode cX10_init 838 = .ok (.dup, 1) := by decide +kernel
theorem dX10_init_839 : decode cX10_init 839 = .ok (.bipush 111, 2) := by decide +kernel
theorem dX10_init_841 : decode cX10_init 841 = .ok (.bipush 115, 2) := by decide +kernel
theorem dX10_init_843 : decode cX10_init 843 = .ok (.iastore, 1) := by decide +kernel
theorem dX10_init_844 : decode cX10_init 844 = .ok (.dup, 1) := by decide +kernel
theorem dX10_init_845 : decode cX10_init 845 = .ok (.bipush 112, 2) := by decide +kernel
theorem dX10_init_847 : decode cX10_init 847 = .ok (.bipush 101, 2) := by decide +kernel
theorem dX10_init_849 : decode cX10_init 849 = .ok (.iastore, 1) := by decide +kernel
theorem dX10_init_850 : decode cX10_init 850 = .ok (.dup, 1) := by decide +kernel
theorem dX10_init_851 : decode cX10_init 851 = .ok (.bipush 113, 2) := by decide +kernel
theorem dX10_init_853 : decode cX10_init 853 = .ok (.bipush 115, 2) := by decide +kernel
theorem dX10_init_855 : decode cX10_init 855 = .ok (.iastore, 1) := by decide +kernel
theorem dX10_init_856 : decode cX10_init 856 = .ok (.dup, 1) := by decide +kernel
theorem dX10_init_857 : decode cX10_init 857 = .ok (.bipush 114, 2) := by decide +kernel
theorem dX10_init_859 : decode cX10_init 859 = .ok (.bipush 32, 2) := by decide +kernel
theorem dX10_init_861 : decode cX10_init 861 = .ok (.iastore, 1) := by decide +kernel
theorem dX10_init_862 : decode cX10_init 862 = .ok (.putfield 56, 3) := by decide +kernel
theorem dX10_init_865 : decode cX10_init 865 = .ok (.aload_n 0, 1) := by decide +kernel
theorem dX10_init_866 : decode cX10_init 866 = .ok (.bipush 7, 2) := by decide +kernel
theorem dX10_init_868 : decode cX10_init 868 = .ok (.newarray .int, 2) := by decide +kernel
theorem dX10_init_870 : decode cX10_init 870 = .ok (.putfield 59, 3) := by decide +kernel
theorem dX10_init_873 : decode cX10_init 873 = .ok (.aload_n 0, 1) := by decide +kernel
theorem dX10_init_874 : decode cX10_init 874 = .ok (.bipush 112, 2) := by decide +kernel
theorem dX10_init_876 : decode cX10_init 876 = .ok (.newarray .int, 2) := by decide +kernel
theorem dX10_init_878 : decode cX10_init 878 = .ok (.putfield 62, 3) := by decide +kernel
theorem dX10_init_881 : decode cX10_init 881 = .ok (.aload_n 0, 1) := by decide +kernel
theorem dX10_init_882 : decode cX10_init 882 = .ok (.bipush 112, 2) := by decide +kernel
theorem dX10_init_884 : decode cX10_init 884 = .ok (.newarray .int, 2) := by decide +kernel
theorem dX10_init_886 : decode cX10_init 886 = .ok (.putfield 65, 3) := by decide +kernel
theorem dX10_init_889 : decode cX10_init 889 = .ok (.aload_n 0, 1) := by decide +kernel
theorem dX10_init_890 : decode cX10_init 890 = .ok (.bipush 112, 2) := by decide +kernel
theorem dX10_init_892 : decode cX10_init 892 = .ok (.newarray .int, 2) := by decide +kernel
theorem dX10_init_894 : decode cX10_init 894 = .ok (.putfield 68, 3) := by decide +kernel
theorem dX10_init_897 : decode cX10_init 897 = .ok (.aload_n 0, 1) := by decide +kernel
theorem dX10_init_898 : decode cX10_init 898 = .ok (.bipush 112, 2) := by decide +kernel
theorem dX10_init_900 : decode cX10_init 900 = .ok (.newarray .int, 2) := by decide +kernel
theorem dX10_init_902 : decode cX10_init 902 = .ok (.putfield 71, 3) := by decide +kernel
theorem dX10_init_905 : decode cX10_init 905 = .ok (.aload_n 0, 1) := by decide +kernel
theorem dX10_init_906 : decode cX10_init 906 = .ok (.bipush 112, 2) := by decide +kernel
theorem dX10_init_908 : decode cX10_init 908 = .ok (.newarray .int, 2) := by decide +kernel
theorem dX10_init_910 : decode cX10_init 910 = .ok (.putfield 74, 3) := by decide +kernel
theorem dX10_init_913 : decode cX10_init 913 = .ok (.aload_n 0, 1) := by decide +kernel
theorem dX10_init_914 : decode cX10_init 914 = .ok (.bipush 112, 2) := by decide +kernel
theorem dX10_init_916 : decode cX10_init 916 = .ok (.newarray .int, 2) := by decide +kernel
theorem dX10_init_918 : decode cX10_init 918 = .ok (.putfield 77, 3) := by decide +kernel
theorem dX10_init_921 : decode cX10_init 921 = .ok (.aload_n 0, 1) := by decide +kernel
theorem dX10_init_922 : decode cX10_init 922 = .ok (.bipush 112, 2) := by decide +kernel
theorem dX10_init_924 : decode cX10_init 924 = .ok (.newarray .int, 2) := by decide +kernel
theorem dX10_init_926 : decode cX10_init 926 = .ok (.putfield 80, 3) := by decide +kernel
theorem dX10_init_929 : decode cX10_init 929 = .ok (.aload_n 0, 1) := by decide +kernel
theorem dX10_init_930 : decode cX10_init 930 = .ok (.sipush 3500, 3) := by decide +kernel
theorem dX10_init_933 : decode cX10_init 933 = .ok (.newarray .int, 2) := by decide +kernel
theorem dX10_init_935 : decode cX10_init 935 = .ok (.putfield 83, 3) := by decide +kernel
theorem dX10_init_938 : decode cX10_init 938 = .ok (.aload_n 0, 1) := by decide +kernel
theorem dX10_init_939 : decode cX10_init 939 = .ok (.sipush 3500, 3) := by decide +kernel
theorem dX10_init_942 : decode cX10_init 942 = .ok (.newarray .int, 2) := by decide +kernel
theorem dX10_init_944 : decode cX10_init 944 = .ok (.putfield 86, 3) := by decide +kernel
theorem dX10_init_947 : decode cX10_init 947 = .ok (.aload_n 0, 1) := by decide +kernel
theorem dX10_init_948 : decode cX10_init 948 = .ok (.bipush 40, 2) := by decide +kernel
theorem dX10_init_950 : decode cX10_init 950 = .ok (.newarray .int, 2) := by decide +kernel
theorem dX10_init_952 : decode cX10_init 952 = .ok (.putfield 89, 3) := by decide +kernel
theorem dX10_init_955 : decode cX10_init 955 = .ok (.aload_n 0, 1) := by decide +kernel
theorem dX10_init_956 : decode cX10_init 956 = .ok (.iconst (-1), 1) := by decide +kernel
theorem dX10_init_957 : decode cX10_init 957 = .ok (.putfield 92, 3) := by decide +kernel
theorem dX10_init_960 : decode cX10_init 960 = .ok (.aload_n 0, 1) := by decide +kernel
theorem dX10_init_961 : decode cX10_init 961 = .ok (.bipush 14, 2) := by decide +kernel
theorem dX10_init_963 : decode cX10_init 963 = .ok (.newarray .int, 2) := by decide +kernel
theorem dX10_init_965 : decode cX10_init 965 = .ok (.putfield 95, 3) := by decide +kernel
theorem dX10_init_968 : decode cX10_init 968 = .ok (.aload_n 0, 1) := by decide +kernel
theorem dX10_init_969 : decode cX10_init 969 = .ok (.sipush 520, 3) := by decide +kernel
theorem dX10_init_972 : decode cX10_init 972 = .ok (.newarray .int, 2) := by decide +kernel
theorem dX10_init_974 : decode cX10_init 974 = .ok (.putfield 98, 3) := by decide +kernel
theorem dX10_init_977 : decode cX10_init 977 = .ok (.aload_n 0, 1) := by decide +kernel
theorem dX10_init_978 : decode cX10_init 978 = .ok (.iconst 5, 1) := by decide +kernel
theorem dX10_init_979 : decode cX10_init 979 = .ok (.newarray .int, 2) := by decide +kernel
theorem dX10_init_981 : decode cX10_init 981 = .ok (.putfield 101, 3) := by decide +kernel
theorem dX10_init_984 : decode cX10_init 984 = .ok (.aload_n 0, 1) := by decide +kernel
theorem dX10_init_985 : decode cX10_init 985 = .ok (.iconst 5, 1) := by decide +kernel
theorem dX10_init_986 : decode cX10_init 986 = .ok (.newarray .int, 2) := by decide +kernel
theorem dX10_init_988 : decode cX10_init 988 = .ok (.putfield 104, 3) := by decide +kernel
theorem dX10_init_991 : decode cX10_init 991 = .ok (.aload_n 0, 1) := by decide +kernel
theorem dX10_init_992 : decode cX10_init 992 = .ok (.sipush 144, 3) := by decide +kernel
theorem dX10_init_995 : decode cX10_init 995 = .ok (.newarray .int, 2) := by decide +kernel
theorem dX10_init_997 : decode cX10_init 997 = .ok (.putfield 107, 3) := by decide +kernel
theorem dX10_init_1000 : decode cX10_init 1000 = .ok (.aload_n 0, 1) := by decide +kernel
theorem dX10_init_1001 : decode cX10_init 1001 = .ok (.sipush 144, 3) := by decide +kernel
theorem dX10_init_1004 : decode cX10_init 1004 = .ok (.newarray .int, 2) := by decide +kernel
theorem dX10_init_1006 : decode cX10_init 1006 = .ok (.putfield 110, 3) := by decide +kernel
theorem dX10_init_1009 : decode cX10_init 1009 = .ok (.aload_n 0, 1) := by decide +kernel
theorem dX10_init_1010 : decode cX10_init 1010 = .ok (.bipush 8, 2) := by decide +kernel
theorem dX10_init_1012 : decode cX10_init 1012 = .ok (.newarray .int, 2) := by decide +kernel
theorem dX10_init_1014 : decode cX10_init 1014 = .ok (.putfield 113, 3) := by decide +kernel
theorem dX10_init_1017 : decode cX10_init 1017 = .ok (.aload_n 0, 1) := by decide +kernel
theorem dX10_init_1018 : decode cX10_init 1018 = .ok (.bipush 10, 2) := by decide +kernel
theorem dX10_init_1020 : decode cX10_init 1020 = .ok (.newarray .int, 2) := by decide +kernel
theorem dX10_init_1022 : decode cX10_init 1022 = .ok (.putfield 116, 3) := by decide +kernel
theorem dX10_init_1025 : decode cX10_init 1025 = .ok (.aload_n 0, 1) := by decide +kernel
theorem dX10_init_1026 : decode cX10_init 1026 = .ok (.bipush 120, 2) := by decide +kernel
theorem dX10_init_1028 : decode cX10_init 1028 = .ok (.newarray .int, 2) := by decide +kernel
theorem dX10_init_1030 : decode cX10_init 1030 = .ok (.putfield 119, 3) := by decide +kernel
theorem dX10_init_1033 : decode cX10_init 1033 = .ok (.aload_n 0, 1) := by decide +kernel
theorem dX10_init_1034 : decode cX10_init 1034 = .ok (.bipush 120, 2) := by decide +kernel
theorem dX10_init_1036 : decode cX10_init 1036 = .ok (.newarray .int, 2) := by decide +kernel
theorem dX10_init_1038 : decode cX10_init 1038 = .ok (.putfield 122, 3) := by decide +kernel
theorem dX10_init_1041 : decode cX10_init 1041 = .ok (.aload_n 0, 1) := by decide +kernel
theorem dX10_init_1042 : decode cX10_init 1042 = .ok (.sipush 1920, 3) := by decide +kernel
theorem dX10_init_1045 : decode cX10_init 1045 = .ok (.newarray .int, 2) := by decide +kernel
theorem dX10_init_1047 : decode cX10_init 1047 = .ok (.putfield 125, 3) := by decide +kernel
theorem dX10_init_1050 : decode cX10_init 1050 = .ok (.aload_n 0, 1) := by decide +kernel
theorem dX10_init_1051 : decode cX10_init 1051 = .ok (.sipush 1920, 3) := by decide +kernel
theorem dX10_init_1054 : decode cX10_init 1054 = .ok (.newarray .int, 2) := by decide +kernel
theorem dX10_init_1056 : decode cX10_init 1056 = .ok (.putfield 128, 3) := by decide +kernel
theorem dX10_init_1059 : decode cX10_init 1059 = .ok (.aload_n 0, 1) := by decide +kernel
theorem dX10_init_1060 : decode cX10_init 1060 = .ok (.iconst 5, 1) := by decide +kernel
theorem dX10_init_1061 : decode cX10_init 1061 = .ok (.newarray .int, 2) := by decide +kernel
theorem dX10_init_1063 : decode cX10_init 1063 = .ok (.putfield 131, 3) := by decide +kernel
theorem dX10_init_1066 : decode cX10_init 1066 = .ok (.aload_n 0, 1) := by decide +kernel
theorem dX10_init_1067 : decode cX10_init 1067 = .ok (.sipush 5120, 3) := by decide +kernel
theorem dX10_init_1070 : decode cX10_init 1070 = .ok (.newarray .int, 2) := by decide +kernel
theorem dX10_init_1072 : decode cX10_init 1072 = .ok (.putfield 134, 3) := by decide +kernel
theorem dX10_init_1075 : decode cX10_init 1075 = .ok (.aload_n 0, 1) := by decide +kernel
theorem dX10_init_1076 : decode cX10_init 1076 = .ok (.sipush 1024, 3) := by decide +kernel
theorem dX10_init_1079 : decode cX10_init 1079 = .ok (.newarray .int, 2) := by decide +kernel
theorem dX10_init_1081 : decode cX10_init 1081 = .ok (.putfield 137, 3) := by decide +kernel
theorem dX10_init_1084 : decode cX10_init 1084 = .ok (.aload_n 0, 1) := by decide +kernel
theorem dX10_init_1085 : decode cX10_init 1085 = .ok (.bipush 20, 2) := by decide +kernel
theorem dX10_init_1087 : decode cX10_init 1087 = .ok (.newarray .int, 2) := by decide +kernel
theorem dX10_init_1089 : decode cX10_init 1089 = .ok (.putfield 140, 3) := by decide +kernel
theorem dX10_init_1092 : decode cX10_init 1092 = .ok (.aload_n 0, 1) := by decide +kernel
theorem dX10_init_1093 : decode cX10_init 1093 = .ok (.bipush 20, 2) := by decide +kernel
theorem dX10_init_1095 : decode cX10_init 1095 = .ok (.newarray .int, 2) := by decide +kernel
theorem dX10_init_1097 : decode cX10_init 1097 = .ok (.putfield 143, 3) := by decide +kernel
theorem dX10_init_1100 : decode cX10_init 1100 = .ok (.aload_n 0, 1) := by decide +kernel
theorem dX10_init_1101 : decode cX10_init 1101 = .ok (.bipush 8, 2) := by decide +kernel
theorem dX10_init_1103 : decode cX10_init 1103 = .ok (.newarray .int, 2) := by decide +kernel
theorem dX10_init_1105 : decode cX10_init 1105 = .ok (.putfield 146, 3) := by decide +kernel
theorem dX10_init_1108 : decode cX10_init 1108 = .ok (.aload_n 0, 1) := by decide +kernel
theorem dX10_init_1109 : decode cX10_init 1109 = .ok (.bipush 8, 2) := by decide +kernel
theorem dX10_init_1111 : decode cX10_init 1111 = .ok (.newarray .int, 2) := by decide +kernel
theorem dX10_init_1113 : decode cX10_init 1113 = .ok (.putfield 149, 3) := by decide +kernel
theorem dX10_init_1116 : decode cX10_init 1116 = .ok (.aload_n 0, 1) := by decide +kernel
theorem dX10_init_1117 : decode cX10_init 1117 = .ok (.bipush 8, 2) := by decide +kernel
theorem dX10_init_1119 : decode cX10_init 1119 = .ok (.newarray .int, 2) := by decide +kernel
theorem dX10_init_1121 : decode cX10_init 1121 = .ok (.putfield 152, 3) := by decide +kernel
theorem dX10_init_1124 : decode cX10_init 1124 = .ok (.aload_n 0, 1) := by decide +kernel
theorem dX10_init_1125 : decode cX10_init 1125 = .ok (.bipush 8, 2) := by decide +kernel
theorem dX10_init_1127 : decode cX10_init 1127 = .ok (.newarray .int, 2) := by decide +kernel
theorem dX10_init_1129 : decode cX10_init 1129 = .ok (.putfield 155, 3) := by decide +kernel
theorem dX10_init_1132 : decode cX10_init 1132 = .ok (.aload_n 0, 1) := by decide +kernel
theorem dX10_init_1133 : decode cX10_init 1133 = .ok (.bipush 8, 2) := by decide +kernel
theorem dX10_init_1135 : decode cX10_init 1135 = .ok (.newarray .int, 2) := by decide +kernel
theorem dX10_init_1137 : decode cX10_init 1137 = .ok (.putfield 158, 3) := by decide +kernel
theorem dX10_init_1140 : decode cX10_init 1140 = .ok (.aload_n 0, 1) := by decide +kernel
theorem dX10_init_1141 : decode cX10_init 1141 = .ok (.bipush 8, 2) := by decide +kernel
theorem dX10_init_1143 : decode cX10_init 1143 = .ok (.newarray .int, 2) := by decide +kernel
theorem dX10_init_1145 : decode cX10_init 1145 = .ok (.putfield 161, 3) := by decide +kernel
theorem dX10_init_1148 : decode cX10_init 1148 = .ok (.aload_n 0, 1) := by decide +kernel
theorem dX10_init_1149 : decode cX10_init 1149 = .ok (.sipush 16400, 3) := by decide +kernel
theorem dX10_init_1152 : decode cX10_init 1152 = .ok (.newarray .int, 2) := by decide +kernel
theorem dX10_init_1154 : decode cX10_init 1154 = .ok (.putfield 164, 3) := by decide +kernel
theorem dX10_init_1157 : decode cX10_init 1157 = .ok (.return_, 1) := by decide +kernel
theorem dX10_isIn_0 : decode cX10_isIn 0 = .ok (.iload_n 1, 1) := by decide +kernel
theorem dX10_isIn_1 : decode cX10_isIn 1 = .ok (.iload_n 2, 1) := by decide +kernel
theorem dX10_isIn_2 : decode cX10_isIn 2 = .ok (.if_icmp .lt 12, 3) := by decide +kernel
theorem dX10_isIn_5 : decode cX10_isIn 5 = .ok (.iload_n 1, 1) := by decide +kernel
theorem dX10_isIn_6 : decode cX10_isIn 6 = .ok (.iload_n 3, 1) := by decide +kernel
theorem dX10_isIn_7 : decode cX10_isIn 7 = .ok (.if_icmp .gt 7, 3) := by decide +kernel
theorem dX10_isIn_10 : decode cX10_isIn 10 = .ok (.iconst 1, 1) := by decide +kernel
theorem dX10_isIn_11 : decode cX10_isIn 11 = .ok (.goto 4, 3) := by decide +kernel
theorem dX10_isIn_14 : decode cX10_isIn 14 = .ok (.iconst 0, 1) := by decide +kernel
theorem dX10_isIn_15 : decode cX10_isIn 15 = .ok (.ireturn, 1) := by decide +kernel
theorem dX10_size_0 : decode cX10_size 0 = .ok (.iload_n 1, 1) := by decide +kernel
theorem dX10_size_1 : decode cX10_size 1 = .ok (.ifCond .ge 8, 3) := by decide +kernel
theorem dX10_size_4 : decode cX10_size 4 = .ok (.iload_n 1, 1) := by decide +kernel
theorem dX10_size_5 : decode cX10_size 5 = .ok (.ineg, 1) := by decide +kernel
theorem dX10_size_6 : decode cX10_size 6 = .ok (.goto 4, 3) := by decide +kernel
theorem dX10_size_9 : decode cX10_size 9 = .ok (.iload_n 1, 1) := by decide +kernel
theorem dX10_size_10 : decode cX10_size 10 = .ok (.ireturn, 1) := by decide +kernel
theorem dX10_isBar_0 : decode cX10_isBar 0 = .ok (.iload_n 1, 1) := by decide +kernel
theorem dX10_isBar_1 : decode cX10_isBar 1 = .ok (.ifCond .lt 15, 3) := by decide +kernel
theorem dX10_isBar_4 : decode cX10_isBar 4 = .ok (.iload_n 1, 1) := by decide +kernel
theorem dX10_isBar_5 : decode cX10_isBar 5 = .ok (.aload_n 0, 1) := by decide +kernel
theorem dX10_isBar_6 : decode cX10_isBar 6 = .ok (.getfield 170, 3) := by decide +kernel
theorem dX10_isBar_9 : decode cX10_isBar 9 = .ok (.if_icmp .ge 7, 3) := by decide +kernel
theorem dX10_isBar_12 : decode cX10_isBar 12 = .ok (.iconst 1, 1) := by decide +kernel
theorem dX10_isBar_13 : decode cX10_isBar 13 = .ok (.goto 4, 3) := by decide +kernel
theorem dX10_isBar_16 : decode cX10_isBar 16 = .ok (.iconst 0, 1) := by decide +kernel
theorem dX10_isBar_17 : decode cX10_isBar 17 = .ok (.ireturn, 1) := by decide +kernel
theorem dX10_isSlice_0 : decode cX10_isSlice 0 = .ok (.aload_n 0, 1) := by decide +kernel
theorem dX10_isSlice_1 : decode cX10_isSlice 1 = .ok (.iload_n 1, 1) := by decide +kernel
theorem dX10_isSlice_2 : decode cX10_isSlice 2 = .ok (.invokevirtual 173, 3) := by decide +kernel
theorem dX10_isSlice_5 : decode cX10_isSlice 5 = .ok (.ifCond .eq 21, 3) := by decide +kernel
theorem dX10_isSlice_8 : decode cX10_isSlice 8 = .ok (.iload_n 2, 1) := by decide +kernel
theorem dX10_isSlice_9 : decode cX10_isSlice 9 = .ok (.ifCond .lt 17, 3) := by decide +kernel
theorem dX10_isSlice_12 : decode cX10_isSlice 12 = .ok (.iload_n 2, 1) := by decide +kernel
theorem dX10_isSlice_13 : decode cX10_isSlice 13 = .ok (.aload_n 0, 1) := by decide +kernel
theorem dX10_isSlice_14 : decode cX10_isSlice 14 = .ok (.getfield 13, 3) := by decide +kernel
theorem dX10_isSlice_17 : decode cX10_isSlice 17 = .ok (.iload_n 1, 1) := by decide +kernel
theorem dX10_isSlice_18 : decode cX10_isSlice 18 = .ok (.iaload, 1) := by decide +kernel
theorem dX10_isSlice_19 : decode cX10_isSlice 19 = .ok (.if_icmp .ge 7, 3) := by decide +kernel
theorem dX10_isSlice_22 : decode cX10_isSlice 22 = .ok (.iconst 1, 1) := by decide +kernel
theorem dX10_isSlice_23 : decode cX10_isSlice 23 = .ok (.goto 4, 3) := by decide +kernel
theorem dX10_isSlice_26 : decode cX10_isSlice 26 = .ok (.iconst 0, 1) := by decide +kernel
theorem dX10_isSlice_27 : decode cX10_isSlice 27 = .ok (.ireturn, 1) := by decide +kernel
theorem dX10_isTone_0 : decode cX10_isTone 0 = .ok (.aload_n 0, 1) := by decide +kernel
theorem dX10_isTone_1 : decode cX10_isTone 1 = .ok (.iload_n 1, 1) := by decide +kernel
theorem dX10_isTone_2 : decode cX10_isTone 2 = .ok (.iconst 0, 1) := by decide +kernel
theorem dX10_isTone_3 : decode cX10_isTone 3 = .ok (.iconst 2, 1) := by decide +kernel
theorem dX10_isTone_4 : decode cX10_isTone 4 = .ok (.invokevirtual 177, 3) := by decide +kernel
theorem dX10_isTone_7 : decode cX10_isTone 7 = .ok (.ireturn, 1) := by decide +kernel
theorem dX10_bar_0 : decode cX10_bar 0 = .ok (.aload_n 0, 1) := by decide +kernel
theorem dX10_bar_1 : decode cX10_bar 1 = .ok (.iconst 0, 1) := by decide +kernel
theorem dX10_bar_2 : decode cX10_bar 2 = .ok (.putfield 167, 3) := by decide +kernel
theorem dX10_bar_5 : decode cX10_bar 5 = .ok (.aload_n 0, 1) := by decide +kernel
theorem dX10_bar_6 : decode cX10_bar 6 = .ok (.iload_n 1, 1) := by decide +kernel
theorem dX10_bar_7 : decode cX10_bar 7 = .ok (.iconst 3, 1) := by decide +kernel
theorem dX10_bar_8 : decode cX10_bar 8 = .ok (.bipush 16, 2) := by decide +kernel
theorem dX10_bar_10 : decode cX10_bar 10 = .ok (.invokevirtual 177, 3) := by decide +kernel
theorem dX10_bar_13 : decode cX10_bar 13 = .ok (.ifCond .eq 12, 3) := by decide +kernel
theorem dX10_bar_16 : decode cX10_bar 16 = .ok (.aload_n 0, 1) := by decide +kernel
theorem dX10_bar_17 : decode cX10_bar 17 = .ok (.getfield 170, 3) := by decide +kernel
theorem dX10_bar_20 : decode cX10_bar 20 = .ok (.bipush 10, 2) := by decide +kernel
theorem dX10_bar_22 : decode cX10_bar 22 = .ok (.if_icmp .ne 5, 3) := by decide +kernel
theorem dX10_bar_25 : decode cX10_bar 25 = .ok (.iconst (-1), 1) := by decide +kernel
theorem dX10_bar_26 : decode cX10_bar 26 = .ok (.ireturn, 1) := by decide +kernel
theorem dX10_bar_27 : decode cX10_bar 27 = .ok (.aload_n 0, 1) := by decide +kernel
theorem dX10_bar_28 : decode cX10_bar 28 = .ok (.getfield 13, 3) := by decide +kernel
theorem dX10_bar_31 : decode cX10_bar 31 = .ok (.aload_n 0, 1) := by decide +kernel
theorem dX10_bar_32 : decode cX10_bar 32 = .ok (.getfield 170, 3) := by decide +kernel
theorem dX10_bar_35 : decode cX10_bar 35 = .ok (.iload_n 1, 1) := by decide +kernel
theorem dX10_bar_36 : decode cX10_bar 36 = .ok (.iastore, 1) := by decide +kernel
theorem dX10_bar_37 : decode cX10_bar 37 = .ok (.bipush 16, 2) := by decide +kernel
theorem dX10_bar_39 : decode cX10_bar 39 = .ok (.aload_n 0, 1) := by decide +kernel
theorem dX10_bar_40 : decode cX10_bar 40 = .ok (.getfield 170, 3) := by decide +kernel
theorem dX10_bar_43 : decode cX10_bar 43 = .ok (.imul, 1) := by decide +kernel
theorem dX10_bar_44 : decode cX10_bar 44 = .ok (.istore_n 2, 1) := by decide +kernel
theorem dX10_bar_45 : decode cX10_bar 45 = .ok (.iload_n 2, 1) := by decide +kernel
theorem dX10_bar_46 : decode cX10_bar 46 = .ok (.bipush 16, 2) := by decide +kernel
theorem dX10_bar_48 : decode cX10_bar 48 = .ok (.aload_n 0, 1) := by decide +kernel
theorem dX10_bar_49 : decode cX10_bar 49 = .ok (.getfield 170, 3) := by decide +kernel
theorem dX10_bar_52 : decode cX10_bar 52 = .ok (.imul, 1) := by decide +kernel
