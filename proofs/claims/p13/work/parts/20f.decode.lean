theorem d_HoldQueueLaw_law_173 : decode c_HoldQueueLaw_law 173 = .ok (.aload_n 0, 1) := by decide +kernel
theorem d_HoldQueueLaw_law_174 : decode c_HoldQueueLaw_law 174 = .ok (.iload_n 3, 1) := by decide +kernel
theorem d_HoldQueueLaw_law_175 : decode c_HoldQueueLaw_law 175 = .ok (.iconst 1, 1) := by decide +kernel
theorem d_HoldQueueLaw_law_176 : decode c_HoldQueueLaw_law 176 = .ok (.iadd, 1) := by decide +kernel
theorem d_HoldQueueLaw_law_177 : decode c_HoldQueueLaw_law 177 = .ok (.iaload, 1) := by decide +kernel
theorem d_HoldQueueLaw_law_178 : decode c_HoldQueueLaw_law 178 = .ok (.aload_n 0, 1) := by decide +kernel
theorem d_HoldQueueLaw_law_179 : decode c_HoldQueueLaw_law 179 = .ok (.iload_n 3, 1) := by decide +kernel
theorem d_HoldQueueLaw_law_180 : decode c_HoldQueueLaw_law 180 = .ok (.iconst 2, 1) := by decide +kernel
theorem d_HoldQueueLaw_law_181 : decode c_HoldQueueLaw_law 181 = .ok (.iadd, 1) := by decide +kernel
theorem d_HoldQueueLaw_law_182 : decode c_HoldQueueLaw_law 182 = .ok (.iaload, 1) := by decide +kernel
theorem d_HoldQueueLaw_law_183 : decode c_HoldQueueLaw_law 183 = .ok (.ifCond .eq 7, 3) := by decide +kernel
theorem d_HoldQueueLaw_law_186 : decode c_HoldQueueLaw_law 186 = .ok (.iconst 1, 1) := by decide +kernel
theorem d_HoldQueueLaw_law_187 : decode c_HoldQueueLaw_law 187 = .ok (.goto 4, 3) := by decide +kernel
theorem d_HoldQueueLaw_law_190 : decode c_HoldQueueLaw_law 190 = .ok (.iconst 0, 1) := by decide +kernel
theorem d_HoldQueueLaw_law_191 : decode c_HoldQueueLaw_law 191 = .ok (.invokevirtual 23, 3) := by decide +kernel
theorem d_HoldQueueLaw_law_194 : decode c_HoldQueueLaw_law 194 = .ok (.pop, 1) := by decide +kernel
theorem d_HoldQueueLaw_law_195 : decode c_HoldQueueLaw_law 195 = .ok (.aload_n 2, 1) := by decide +kernel
theorem d_HoldQueueLaw_law_196 : decode c_HoldQueueLaw_law 196 = .ok (.aload_n 0, 1) := by decide +kernel
theorem d_HoldQueueLaw_law_197 : decode c_HoldQueueLaw_law 197 = .ok (.iload_n 3, 1) := by decide +kernel
theorem d_HoldQueueLaw_law_198 : decode c_HoldQueueLaw_law 198 = .ok (.iconst 1, 1) := by decide +kernel
theorem d_HoldQueueLaw_law_199 : decode c_HoldQueueLaw_law 199 = .ok (.iadd, 1) := by decide +kernel
theorem d_HoldQueueLaw_law_200 : decode c_HoldQueueLaw_law 200 = .ok (.iaload, 1) := by decide +kernel
theorem d_HoldQueueLaw_law_201 : decode c_HoldQueueLaw_law 201 = .ok (.aload_n 0, 1) := by decide +kernel
theorem d_HoldQueueLaw_law_202 : decode c_HoldQueueLaw_law 202 = .ok (.iload_n 3, 1) := by decide +kernel
theorem d_HoldQueueLaw_law_203 : decode c_HoldQueueLaw_law 203 = .ok (.iconst 2, 1) := by decide +kernel
theorem d_HoldQueueLaw_law_204 : decode c_HoldQueueLaw_law 204 = .ok (.iadd, 1) := by decide +kernel
theorem d_HoldQueueLaw_law_205 : decode c_HoldQueueLaw_law 205 = .ok (.iaload, 1) := by decide +kernel
theorem d_HoldQueueLaw_law_206 : decode c_HoldQueueLaw_law 206 = .ok (.ifCond .eq 7, 3) := by decide +kernel
theorem d_HoldQueueLaw_law_209 : decode c_HoldQueueLaw_law 209 = .ok (.iconst 1, 1) := by decide +kernel
theorem d_HoldQueueLaw_law_210 : decode c_HoldQueueLaw_law 210 = .ok (.goto 4, 3) := by decide +kernel
theorem d_HoldQueueLaw_law_213 : decode c_HoldQueueLaw_law 213 = .ok (.iconst 0, 1) := by decide +kernel
theorem d_HoldQueueLaw_law_214 : decode c_HoldQueueLaw_law 214 = .ok (.invokevirtual 27, 3) := by decide +kernel
theorem d_HoldQueueLaw_law_217 : decode c_HoldQueueLaw_law 217 = .ok (.pop, 1) := by decide +kernel
theorem d_HoldQueueLaw_law_218 : decode c_HoldQueueLaw_law 218 = .ok (.goto 485, 3) := by decide +kernel
theorem d_HoldQueueLaw_law_221 : decode c_HoldQueueLaw_law 221 = .ok (.aload_n 1, 1) := by decide +kernel
theorem d_HoldQueueLaw_law_222 : decode c_HoldQueueLaw_law 222 = .ok (.aload_n 0, 1) := by decide +kernel
theorem d_HoldQueueLaw_law_223 : decode c_HoldQueueLaw_law 223 = .ok (.iload_n 3, 1) := by decide +kernel
theorem d_HoldQueueLaw_law_224 : decode c_HoldQueueLaw_law 224 = .ok (.iconst 1, 1) := by decide +kernel
theorem d_HoldQueueLaw_law_225 : decode c_HoldQueueLaw_law 225 = .ok (.iadd, 1) := by decide +kernel
theorem d_HoldQueueLaw_law_226 : decode c_HoldQueueLaw_law 226 = .ok (.iaload, 1) := by decide +kernel
theorem d_HoldQueueLaw_law_227 : decode c_HoldQueueLaw_law 227 = .ok (.aload_n 0, 1) := by decide +kernel
theorem d_HoldQueueLaw_law_228 : decode c_HoldQueueLaw_law 228 = .ok (.iload_n 3, 1) := by decide +kernel
theorem d_HoldQueueLaw_law_229 : decode c_HoldQueueLaw_law 229 = .ok (.iconst 2, 1) := by decide +kernel
theorem d_HoldQueueLaw_law_230 : decode c_HoldQueueLaw_law 230 = .ok (.iadd, 1) := by decide +kernel
theorem d_HoldQueueLaw_law_231 : decode c_HoldQueueLaw_law 231 = .ok (.iaload, 1) := by decide +kernel
theorem d_HoldQueueLaw_law_232 : decode c_HoldQueueLaw_law 232 = .ok (.aload_n 0, 1) := by decide +kernel
theorem d_HoldQueueLaw_law_233 : decode c_HoldQueueLaw_law 233 = .ok (.iload_n 3, 1) := by decide +kernel
theorem d_HoldQueueLaw_law_234 : decode c_HoldQueueLaw_law 234 = .ok (.iconst 3, 1) := by decide +kernel
theorem d_HoldQueueLaw_law_235 : decode c_HoldQueueLaw_law 235 = .ok (.iadd, 1) := by decide +kernel
theorem d_HoldQueueLaw_law_236 : decode c_HoldQueueLaw_law 236 = .ok (.iaload, 1) := by decide +kernel
theorem d_HoldQueueLaw_law_237 : decode c_HoldQueueLaw_law 237 = .ok (.aload_n 0, 1) := by decide +kernel
theorem d_HoldQueueLaw_law_238 : decode c_HoldQueueLaw_law 238 = .ok (.iload_n 3, 1) := by decide +kernel
theorem d_HoldQueueLaw_law_239 : decode c_HoldQueueLaw_law 239 = .ok (.iconst 4, 1) := by decide +kernel
theorem d_HoldQueueLaw_law_240 : decode c_HoldQueueLaw_law 240 = .ok (.iadd, 1) := by decide +kernel
theorem d_HoldQueueLaw_law_241 : decode c_HoldQueueLaw_law 241 = .ok (.iaload, 1) := by decide +kernel
theorem d_HoldQueueLaw_law_242 : decode c_HoldQueueLaw_law 242 = .ok (.invokevirtual 28, 3) := by decide +kernel
theorem d_HoldQueueLaw_law_245 : decode c_HoldQueueLaw_law 245 = .ok (.pop, 1) := by decide +kernel
theorem d_HoldQueueLaw_law_246 : decode c_HoldQueueLaw_law 246 = .ok (.aload_n 2, 1) := by decide +kernel
theorem d_HoldQueueLaw_law_247 : decode c_HoldQueueLaw_law 247 = .ok (.aload_n 0, 1) := by decide +kernel
theorem d_HoldQueueLaw_law_248 : decode c_HoldQueueLaw_law 248 = .ok (.iload_n 3, 1) := by decide +kernel
theorem d_HoldQueueLaw_law_249 : decode c_HoldQueueLaw_law 249 = .ok (.iconst 1, 1) := by decide +kernel
theorem d_HoldQueueLaw_law_250 : decode c_HoldQueueLaw_law 250 = .ok (.iadd, 1) := by decide +kernel
theorem d_HoldQueueLaw_law_251 : decode c_HoldQueueLaw_law 251 = .ok (.iaload, 1) := by decide +kernel
theorem d_HoldQueueLaw_law_252 : decode c_HoldQueueLaw_law 252 = .ok (.aload_n 0, 1) := by decide +kernel
theorem d_HoldQueueLaw_law_253 : decode c_HoldQueueLaw_law 253 = .ok (.iload_n 3, 1) := by decide +kernel
theorem d_HoldQueueLaw_law_254 : decode c_HoldQueueLaw_law 254 = .ok (.iconst 2, 1) := by decide +kernel
theorem d_HoldQueueLaw_law_255 : decode c_HoldQueueLaw_law 255 = .ok (.iadd, 1) := by decide +kernel
theorem d_HoldQueueLaw_law_256 : decode c_HoldQueueLaw_law 256 = .ok (.iaload, 1) := by decide +kernel
theorem d_HoldQueueLaw_law_257 : decode c_HoldQueueLaw_law 257 = .ok (.aload_n 0, 1) := by decide +kernel
theorem d_HoldQueueLaw_law_258 : decode c_HoldQueueLaw_law 258 = .ok (.iload_n 3, 1) := by decide +kernel
theorem d_HoldQueueLaw_law_259 : decode c_HoldQueueLaw_law 259 = .ok (.iconst 3, 1) := by decide +kernel
theorem d_HoldQueueLaw_law_260 : decode c_HoldQueueLaw_law 260 = .ok (.iadd, 1) := by decide +kernel
theorem d_HoldQueueLaw_law_261 : decode c_HoldQueueLaw_law 261 = .ok (.iaload, 1) := by decide +kernel
theorem d_HoldQueueLaw_law_262 : decode c_HoldQueueLaw_law 262 = .ok (.aload_n 0, 1) := by decide +kernel
theorem d_HoldQueueLaw_law_263 : decode c_HoldQueueLaw_law 263 = .ok (.iload_n 3, 1) := by decide +kernel
theorem d_HoldQueueLaw_law_264 : decode c_HoldQueueLaw_law 264 = .ok (.iconst 4, 1) := by decide +kernel
theorem d_HoldQueueLaw_law_265 : decode c_HoldQueueLaw_law 265 = .ok (.iadd, 1) := by decide +kernel
theorem d_HoldQueueLaw_law_266 : decode c_HoldQueueLaw_law 266 = .ok (.iaload, 1) := by decide +kernel
theorem d_HoldQueueLaw_law_267 : decode c_HoldQueueLaw_law 267 = .ok (.invokevirtual 32, 3) := by decide +kernel
theorem d_HoldQueueLaw_law_270 : decode c_HoldQueueLaw_law 270 = .ok (.pop, 1) := by decide +kernel
theorem d_HoldQueueLaw_law_271 : decode c_HoldQueueLaw_law 271 = .ok (.goto 432, 3) := by decide +kernel
theorem d_HoldQueueLaw_law_274 : decode c_HoldQueueLaw_law 274 = .ok (.aload_n 1, 1) := by decide +kernel
theorem d_HoldQueueLaw_law_275 : decode c_HoldQueueLaw_law 275 = .ok (.aload_n 0, 1) := by decide +kernel
theorem d_HoldQueueLaw_law_276 : decode c_HoldQueueLaw_law 276 = .ok (.iload_n 3, 1) := by decide +kernel
theorem d_HoldQueueLaw_law_277 : decode c_HoldQueueLaw_law 277 = .ok (.iconst 1, 1) := by decide +kernel
theorem d_HoldQueueLaw_law_278 : decode c_HoldQueueLaw_law 278 = .ok (.iadd, 1) := by decide +kernel
theorem d_HoldQueueLaw_law_279 : decode c_HoldQueueLaw_law 279 = .ok (.iaload, 1) := by decide +kernel
theorem d_HoldQueueLaw_law_280 : decode c_HoldQueueLaw_law 280 = .ok (.aload_n 0, 1) := by decide +kernel
theorem d_HoldQueueLaw_law_281 : decode c_HoldQueueLaw_law 281 = .ok (.iload_n 3, 1) := by decide +kernel
theorem d_HoldQueueLaw_law_282 : decode c_HoldQueueLaw_law 282 = .ok (.iconst 2, 1) := by decide +kernel
theorem d_HoldQueueLaw_law_283 : decode c_HoldQueueLaw_law 283 = .ok (.iadd, 1) := by decide +kernel
theorem d_HoldQueueLaw_law_284 : decode c_HoldQueueLaw_law 284 = .ok (.iaload, 1) := by decide +kernel
theorem d_HoldQueueLaw_law_285 : decode c_HoldQueueLaw_law 285 = .ok (.invokevirtual 33, 3) := by decide +kernel
theorem d_HoldQueueLaw_law_288 : decode c_HoldQueueLaw_law 288 = .ok (.pop, 1) := by decide +kernel
theorem d_HoldQueueLaw_law_289 : decode c_HoldQueueLaw_law 289 = .ok (.aload_n 2, 1) := by decide +kernel
theorem d_HoldQueueLaw_law_290 : decode c_HoldQueueLaw_law 290 = .ok (.aload_n 0, 1) := by decide +kernel
theorem d_HoldQueueLaw_law_291 : decode c_HoldQueueLaw_law 291 = .ok (.iload_n 3, 1) := by decide +kernel
theorem d_HoldQueueLaw_law_292 : decode c_HoldQueueLaw_law 292 = .ok (.iconst 1, 1) := by decide +kernel
theorem d_HoldQueueLaw_law_293 : decode c_HoldQueueLaw_law 293 = .ok (.iadd, 1) := by decide +kernel
theorem d_HoldQueueLaw_law_294 : decode c_HoldQueueLaw_law 294 = .ok (.iaload, 1) := by decide +kernel
theorem d_HoldQueueLaw_law_295 : decode c_HoldQueueLaw_law 295 = .ok (.aload_n 0, 1) := by decide +kernel
theorem d_HoldQueueLaw_law_296 : decode c_HoldQueueLaw_law 296 = .ok (.iload_n 3, 1) := by decide +kernel
theorem d_HoldQueueLaw_law_297 : decode c_HoldQueueLaw_law 297 = .ok (.iconst 2, 1) := by decide +kernel
theorem d_HoldQueueLaw_law_298 : decode c_HoldQueueLaw_law 298 = .ok (.iadd, 1) := by decide +kernel
theorem d_HoldQueueLaw_law_299 : decode c_HoldQueueLaw_law 299 = .ok (.iaload, 1) := by decide +kernel
theorem d_HoldQueueLaw_law_300 : decode c_HoldQueueLaw_law 300 = .ok (.invokevirtual 36, 3) := by decide +kernel
theorem d_HoldQueueLaw_law_303 : decode c_HoldQueueLaw_law 303 = .ok (.pop, 1) := by decide +kernel
theorem d_HoldQueueLaw_law_304 : decode c_HoldQueueLaw_law 304 = .ok (.goto 399, 3) := by decide +kernel
theorem d_HoldQueueLaw_law_307 : decode c_HoldQueueLaw_law 307 = .ok (.aload_n 1, 1) := by decide +kernel
theorem d_HoldQueueLaw_law_308 : decode c_HoldQueueLaw_law 308 = .ok (.aload_n 0, 1) := by decide +kernel
theorem d_HoldQueueLaw_law_309 : decode c_HoldQueueLaw_law 309 = .ok (.iload_n 3, 1) := by decide +kernel
theorem d_HoldQueueLaw_law_310 : decode c_HoldQueueLaw_law 310 = .ok (.iconst 1, 1) := by decide +kernel
theorem d_HoldQueueLaw_law_311 : decode c_HoldQueueLaw_law 311 = .ok (.iadd, 1) := by decide +kernel
theorem d_HoldQueueLaw_law_312 : decode c_HoldQueueLaw_law 312 = .ok (.iaload, 1) := by decide +kernel
theorem d_HoldQueueLaw_law_313 : decode c_HoldQueueLaw_law 313 = .ok (.aload_n 0, 1) := by decide +kernel
theorem d_HoldQueueLaw_law_314 : decode c_HoldQueueLaw_law 314 = .ok (.iload_n 3, 1) := by decide +kernel
theorem d_HoldQueueLaw_law_315 : decode c_HoldQueueLaw_law 315 = .ok (.iconst 2, 1) := by decide +kernel
theorem d_HoldQueueLaw_law_316 : decode c_HoldQueueLaw_law 316 = .ok (.iadd, 1) := by decide +kernel
theorem d_HoldQueueLaw_law_317 : decode c_HoldQueueLaw_law 317 = .ok (.iaload, 1) := by decide +kernel
theorem d_HoldQueueLaw_law_318 : decode c_HoldQueueLaw_law 318 = .ok (.i2l, 1) := by decide +kernel
theorem d_HoldQueueLaw_law_319 : decode c_HoldQueueLaw_law 319 = .ok (.bipush 32, 2) := by decide +kernel
theorem d_HoldQueueLaw_law_321 : decode c_HoldQueueLaw_law 321 = .ok (.lshl, 1) := by decide +kernel
theorem d_HoldQueueLaw_law_322 : decode c_HoldQueueLaw_law 322 = .ok (.aload_n 0, 1) := by decide +kernel
theorem d_HoldQueueLaw_law_323 : decode c_HoldQueueLaw_law 323 = .ok (.iload_n 3, 1) := by decide +kernel
theorem d_HoldQueueLaw_law_324 : decode c_HoldQueueLaw_law 324 = .ok (.iconst 3, 1) := by decide +kernel
theorem d_HoldQueueLaw_law_325 : decode c_HoldQueueLaw_law 325 = .ok (.iadd, 1) := by decide +kernel
theorem d_HoldQueueLaw_law_326 : decode c_HoldQueueLaw_law 326 = .ok (.iaload, 1) := by decide +kernel
theorem d_HoldQueueLaw_law_327 : decode c_HoldQueueLaw_law 327 = .ok (.i2l, 1) := by decide +kernel
theorem d_HoldQueueLaw_law_328 : decode c_HoldQueueLaw_law 328 = .ok (.ldc2_w 37, 3) := by decide +kernel
theorem d_HoldQueueLaw_law_331 : decode c_HoldQueueLaw_law 331 = .ok (.land, 1) := by decide +kernel
theorem d_HoldQueueLaw_law_332 : decode c_HoldQueueLaw_law 332 = .ok (.lor, 1) := by decide +kernel
theorem d_HoldQueueLaw_law_333 : decode c_HoldQueueLaw_law 333 = .ok (.invokevirtual 39, 3) := by decide +kernel
theorem d_HoldQueueLaw_law_336 : decode c_HoldQueueLaw_law 336 = .ok (.pop, 1) := by decide +kernel
theorem d_HoldQueueLaw_law_337 : decode c_HoldQueueLaw_law 337 = .ok (.aload_n 2, 1) := by decide +kernel
theorem d_HoldQueueLaw_law_338 : decode c_HoldQueueLaw_law 338 = .ok (.aload_n 0, 1) := by decide +kernel
theorem d_HoldQueueLaw_law_339 : decode c_HoldQueueLaw_law 339 = .ok (.iload_n 3, 1) := by decide +kernel
theorem d_HoldQueueLaw_law_340 : decode c_HoldQueueLaw_law 340 = .ok (.iconst 1, 1) := by decide +kernel
theorem d_HoldQueueLaw_law_341 : decode c_HoldQueueLaw_law 341 = .ok (.iadd, 1) := by decide +kernel
theorem d_HoldQueueLaw_law_342 : decode c_HoldQueueLaw_law 342 = .ok (.iaload, 1) := by decide +kernel
theorem d_HoldQueueLaw_law_343 : decode c_HoldQueueLaw_law 343 = .ok (.aload_n 0, 1) := by decide +kernel
theorem d_HoldQueueLaw_law_344 : decode c_HoldQueueLaw_law 344 = .ok (.iload_n 3, 1) := by decide +kernel
theorem d_HoldQueueLaw_law_345 : decode c_HoldQueueLaw_law 345 = .ok (.iconst 2, 1) := by decide +kernel
theorem d_HoldQueueLaw_law_346 : decode c_HoldQueueLaw_law 346 = .ok (.iadd, 1) := by decide +kernel
theorem d_HoldQueueLaw_law_347 : decode c_HoldQueueLaw_law 347 = .ok (.iaload, 1) := by decide +kernel
theorem d_HoldQueueLaw_law_348 : decode c_HoldQueueLaw_law 348 = .ok (.i2l, 1) := by decide +kernel
theorem d_HoldQueueLaw_law_349 : decode c_HoldQueueLaw_law 349 = .ok (.bipush 32, 2) := by decide +kernel
theorem d_HoldQueueLaw_law_351 : decode c_HoldQueueLaw_law 351 = .ok (.lshl, 1) := by decide +kernel
theorem d_HoldQueueLaw_law_352 : decode c_HoldQueueLaw_law 352 = .ok (.aload_n 0, 1) := by decide +kernel
theorem d_HoldQueueLaw_law_353 : decode c_HoldQueueLaw_law 353 = .ok (.iload_n 3, 1) := by decide +kernel
theorem d_HoldQueueLaw_law_354 : decode c_HoldQueueLaw_law 354 = .ok (.iconst 3, 1) := by decide +kernel
theorem d_HoldQueueLaw_law_355 : decode c_HoldQueueLaw_law 355 = .ok (.iadd, 1) := by decide +kernel
theorem d_HoldQueueLaw_law_356 : decode c_HoldQueueLaw_law 356 = .ok (.iaload, 1) := by decide +kernel
theorem d_HoldQueueLaw_law_357 : decode c_HoldQueueLaw_law 357 = .ok (.i2l, 1) := by decide +kernel
theorem d_HoldQueueLaw_law_358 : decode c_HoldQueueLaw_law 358 = .ok (.ldc2_w 37, 3) := by decide +kernel
theorem d_HoldQueueLaw_law_361 : decode c_HoldQueueLaw_law 361 = .ok (.land, 1) := by decide +kernel
theorem d_HoldQueueLaw_law_362 : decode c_HoldQueueLaw_law 362 = .ok (.lor, 1) := by decide +kernel
theorem d_HoldQueueLaw_law_363 : decode c_HoldQueueLaw_law 363 = .ok (.invokevirtual 43, 3) := by decide +kernel
theorem d_HoldQueueLaw_law_366 : decode c_HoldQueueLaw_law 366 = .ok (.pop, 1) := by decide +kernel
theorem d_HoldQueueLaw_law_367 : decode c_HoldQueueLaw_law 367 = .ok (.goto 336, 3) := by decide +kernel
theorem d_HoldQueueLaw_law_370 : decode c_HoldQueueLaw_law 370 = .ok (.aload_n 1, 1) := by decide +kernel
theorem d_HoldQueueLaw_law_371 : decode c_HoldQueueLaw_law 371 = .ok (.aload_n 0, 1) := by decide +kernel
theorem d_HoldQueueLaw_law_372 : decode c_HoldQueueLaw_law 372 = .ok (.iload_n 3, 1) := by decide +kernel
theorem d_HoldQueueLaw_law_373 : decode c_HoldQueueLaw_law 373 = .ok (.iconst 1, 1) := by decide +kernel
theorem d_HoldQueueLaw_law_374 : decode c_HoldQueueLaw_law 374 = .ok (.iadd, 1) := by decide +kernel
theorem d_HoldQueueLaw_law_375 : decode c_HoldQueueLaw_law 375 = .ok (.iaload, 1) := by decide +kernel
theorem d_HoldQueueLaw_law_376 : decode c_HoldQueueLaw_law 376 = .ok (.aload_n 0, 1) := by decide +kernel
theorem d_HoldQueueLaw_law_377 : decode c_HoldQueueLaw_law 377 = .ok (.iload_n 3, 1) := by decide +kernel
theorem d_HoldQueueLaw_law_378 : decode c_HoldQueueLaw_law 378 = .ok (.iconst 2, 1) := by decide +kernel
theorem d_HoldQueueLaw_law_379 : decode c_HoldQueueLaw_law 379 = .ok (.iadd, 1) := by decide +kernel
theorem d_HoldQueueLaw_law_380 : decode c_HoldQueueLaw_law 380 = .ok (.iaload, 1) := by decide +kernel
theorem d_HoldQueueLaw_law_381 : decode c_HoldQueueLaw_law 381 = .ok (.invokevirtual 44, 3) := by decide +kernel
theorem d_HoldQueueLaw_law_384 : decode c_HoldQueueLaw_law 384 = .ok (.pop, 1) := by decide +kernel
theorem d_HoldQueueLaw_law_385 : decode c_HoldQueueLaw_law 385 = .ok (.aload_n 2, 1) := by decide +kernel
theorem d_HoldQueueLaw_law_386 : decode c_HoldQueueLaw_law 386 = .ok (.aload_n 0, 1) := by decide +kernel
theorem d_HoldQueueLaw_law_387 : decode c_HoldQueueLaw_law 387 = .ok (.iload_n 3, 1) := by decide +kernel
theorem d_HoldQueueLaw_law_388 : decode c_HoldQueueLaw_law 388 = .ok (.iconst 1, 1) := by decide +kernel
theorem d_HoldQueueLaw_law_389 : decode c_HoldQueueLaw_law 389 = .ok (.iadd, 1) := by decide +kernel
theorem d_HoldQueueLaw_law_390 : decode c_HoldQueueLaw_law 390 = .ok (.iaload, 1) := by decide +kernel
theorem d_HoldQueueLaw_law_391 : decode c_HoldQueueLaw_law 391 = .ok (.aload_n 0, 1) := by decide +kernel
theorem d_HoldQueueLaw_law_392 : decode c_HoldQueueLaw_law 392 = .ok (.iload_n 3, 1) := by decide +kernel
theorem d_HoldQueueLaw_law_393 : decode c_HoldQueueLaw_law 393 = .ok (.iconst 2, 1) := by decide +kernel
theorem d_HoldQueueLaw_law_394 : decode c_HoldQueueLaw_law 394 = .ok (.iadd, 1) := by decide +kernel
theorem d_HoldQueueLaw_law_395 : decode c_HoldQueueLaw_law 395 = .ok (.iaload, 1) := by decide +kernel
theorem d_HoldQueueLaw_law_396 : decode c_HoldQueueLaw_law 396 = .ok (.invokevirtual 47, 3) := by decide +kernel
theorem d_HoldQueueLaw_law_399 : decode c_HoldQueueLaw_law 399 = .ok (.pop, 1) := by decide +kernel
theorem d_HoldQueueLaw_law_400 : decode c_HoldQueueLaw_law 400 = .ok (.goto 303, 3) := by decide +kernel
theorem d_HoldQueueLaw_law_403 : decode c_HoldQueueLaw_law 403 = .ok (.aload_n 1, 1) := by decide +kernel
theorem d_HoldQueueLaw_law_404 : decode c_HoldQueueLaw_law 404 = .ok (.aload_n 0, 1) := by decide +kernel
theorem d_HoldQueueLaw_law_405 : decode c_HoldQueueLaw_law 405 = .ok (.iload_n 3, 1) := by decide +kernel
theorem d_HoldQueueLaw_law_406 : decode c_HoldQueueLaw_law 406 = .ok (.iconst 1, 1) := by decide +kernel
theorem d_HoldQueueLaw_law_407 : decode c_HoldQueueLaw_law 407 = .ok (.iadd, 1) := by decide +kernel
theorem d_HoldQueueLaw_law_408 : decode c_HoldQueueLaw_law 408 = .ok (.iaload, 1) := by decide +kernel
theorem d_HoldQueueLaw_law_409 : decode c_HoldQueueLaw_law 409 = .ok (.invokevirtual 48, 3) := by decide +kernel
theorem d_HoldQueueLaw_law_412 : decode c_HoldQueueLaw_law 412 = .ok (.pop, 1) := by decide +kernel
theorem d_HoldQueueLaw_law_413 : decode c_HoldQueueLaw_law 413 = .ok (.aload_n 2, 1) := by decide +kernel
theorem d_HoldQueueLaw_law_414 : decode c_HoldQueueLaw_law 414 = .ok (.aload_n 0, 1) := by decide +kernel
theorem d_HoldQueueLaw_law_415 : decode c_HoldQueueLaw_law 415 = .ok (.iload_n 3, 1) := by decide +kernel
theorem d_HoldQueueLaw_law_416 : decode c_HoldQueueLaw_law 416 = .ok (.iconst 1, 1) := by decide +kernel
theorem d_HoldQueueLaw_law_417 : decode c_HoldQueueLaw_law 417 = .ok (.iadd, 1) := by decide +kernel
theorem d_HoldQueueLaw_law_418 : decode c_HoldQueueLaw_law 418 = .ok (.iaload, 1) := by decide +kernel
theorem d_HoldQueueLaw_law_419 : decode c_HoldQueueLaw_law 419 = .ok (.invokevirtual 51, 3) := by decide +kernel
theorem d_HoldQueueLaw_law_422 : decode c_HoldQueueLaw_law 422 = .ok (.pop, 1) := by decide +kernel
theorem d_HoldQueueLaw_law_423 : decode c_HoldQueueLaw_law 423 = .ok (.goto 280, 3) := by decide +kernel
theorem d_HoldQueueLaw_law_426 : decode c_HoldQueueLaw_law 426 = .ok (.aload_n 1, 1) := by decide +kernel
theorem d_HoldQueueLaw_law_427 : decode c_HoldQueueLaw_law 427 = .ok (.aload_n 0, 1) := by decide +kernel
theorem d_HoldQueueLaw_law_428 : decode c_HoldQueueLaw_law 428 = .ok (.iload_n 3, 1) := by decide +kernel
theorem d_HoldQueueLaw_law_429 : decode c_HoldQueueLaw_law 429 = .ok (.iconst 1, 1) := by decide +kernel
theorem d_HoldQueueLaw_law_430 : decode c_HoldQueueLaw_law 430 = .ok (.iadd, 1) := by decide +kernel
theorem d_HoldQueueLaw_law_431 : decode c_HoldQueueLaw_law 431 = .ok (.iaload, 1) := by decide +kernel
theorem d_HoldQueueLaw_law_432 : decode c_HoldQueueLaw_law 432 = .ok (.invokevirtual 52, 3) := by decide +kernel
theorem d_HoldQueueLaw_law_435 : decode c_HoldQueueLaw_law 435 = .ok (.pop, 1) := by decide +kernel
theorem d_HoldQueueLaw_law_436 : decode c_HoldQueueLaw_law 436 = .ok (.aload_n 2, 1) := by decide +kernel
theorem d_HoldQueueLaw_law_437 : decode c_HoldQueueLaw_law 437 = .ok (.aload_n 0, 1) := by decide +kernel
theorem d_HoldQueueLaw_law_438 : decode c_HoldQueueLaw_law 438 = .ok (.iload_n 3, 1) := by decide +kernel
theorem d_HoldQueueLaw_law_439 : decode c_HoldQueueLaw_law 439 = .ok (.iconst 1, 1) := by decide +kernel
theorem d_HoldQueueLaw_law_440 : decode c_HoldQueueLaw_law 440 = .ok (.iadd, 1) := by decide +kernel
theorem d_HoldQueueLaw_law_441 : decode c_HoldQueueLaw_law 441 = .ok (.iaload, 1) := by decide +kernel
theorem d_HoldQueueLaw_law_442 : decode c_HoldQueueLaw_law 442 = .ok (.invokevirtual 55, 3) := by decide +kernel
theorem d_HoldQueueLaw_law_445 : decode c_HoldQueueLaw_law 445 = .ok (.pop, 1) := by decide +kernel
theorem d_HoldQueueLaw_law_446 : decode c_HoldQueueLaw_law 446 = .ok (.goto 257, 3) := by decide +kernel
theorem d_HoldQueueLaw_law_449 : decode c_HoldQueueLaw_law 449 = .ok (.aload_n 1, 1) := by decide +kernel
theorem d_HoldQueueLaw_law_450 : decode c_HoldQueueLaw_law 450 = .ok (.aload_n 0, 1) := by decide +kernel
theorem d_HoldQueueLaw_law_451 : decode c_HoldQueueLaw_law 451 = .ok (.iload_n 3, 1) := by decide +kernel
theorem d_HoldQueueLaw_law_452 : decode c_HoldQueueLaw_law 452 = .ok (.iconst 1, 1) := by decide +kernel
theorem d_HoldQueueLaw_law_453 : decode c_HoldQueueLaw_law 453 = .ok (.iadd, 1) := by decide +kernel
theorem d_HoldQueueLaw_law_454 : decode c_HoldQueueLaw_law 454 = .ok (.iaload, 1) := by decide +kernel
theorem d_HoldQueueLaw_law_455 : decode c_HoldQueueLaw_law 455 = .ok (.invokevirtual 56, 3) := by decide +kernel
theorem d_HoldQueueLaw_law_458 : decode c_HoldQueueLaw_law 458 = .ok (.pop, 1) := by decide +kernel
theorem d_HoldQueueLaw_law_459 : decode c_HoldQueueLaw_law 459 = .ok (.aload_n 2, 1) := by decide +kernel
theorem d_HoldQueueLaw_law_460 : decode c_HoldQueueLaw_law 460 = .ok (.aload_n 0, 1) := by decide +kernel
theorem d_HoldQueueLaw_law_461 : decode c_HoldQueueLaw_law 461 = .ok (.iload_n 3, 1) := by decide +kernel
theorem d_HoldQueueLaw_law_462 : decode c_HoldQueueLaw_law 462 = .ok (.iconst 1, 1) := by decide +kernel
theorem d_HoldQueueLaw_law_463 : decode c_HoldQueueLaw_law 463 = .ok (.iadd, 1) := by decide +kernel
theorem d_HoldQueueLaw_law_464 : decode c_HoldQueueLaw_law 464 = .ok (.iaload, 1) := by decide +kernel
theorem d_HoldQueueLaw_law_465 : decode c_HoldQueueLaw_law 465 = .ok (.invokevirtual 59, 3) := by decide +kernel
theorem d_HoldQueueLaw_law_468 : decode c_HoldQueueLaw_law 468 = .ok (.pop, 1) := by decide +kernel
theorem d_HoldQueueLaw_law_469 : decode c_HoldQueueLaw_law 469 = .ok (.goto 234, 3) := by decide +kernel
theorem d_HoldQueueLaw_law_472 : decode c_HoldQueueLaw_law 472 = .ok (.aload_n 1, 1) := by decide +kernel
theorem d_HoldQueueLaw_law_473 : decode c_HoldQueueLaw_law 473 = .ok (.aload_n 0, 1) := by decide +kernel
theorem d_HoldQueueLaw_law_474 : decode c_HoldQueueLaw_law 474 = .ok (.iload_n 3, 1) := by decide +kernel
theorem d_HoldQueueLaw_law_475 : decode c_HoldQueueLaw_law 475 = .ok (.iconst 1, 1) := by decide +kernel
theorem d_HoldQueueLaw_law_476 : decode c_HoldQueueLaw_law 476 = .ok (.iadd, 1) := by decide +kernel
theorem d_HoldQueueLaw_law_477 : decode c_HoldQueueLaw_law 477 = .ok (.iaload, 1) := by decide +kernel
theorem d_HoldQueueLaw_law_478 : decode c_HoldQueueLaw_law 478 = .ok (.invokevirtual 60, 3) := by decide +kernel
theorem d_HoldQueueLaw_law_481 : decode c_HoldQueueLaw_law 481 = .ok (.pop, 1) := by decide +kernel
theorem d_HoldQueueLaw_law_482 : decode c_HoldQueueLaw_law 482 = .ok (.aload_n 2, 1) := by decide +kernel
theorem d_HoldQueueLaw_law_483 : decode c_HoldQueueLaw_law 483 = .ok (.aload_n 0, 1) := by decide +kernel
theorem d_HoldQueueLaw_law_484 : decode c_HoldQueueLaw_law 484 = .ok (.iload_n 3, 1) := by decide +kernel
theorem d_HoldQueueLaw_law_485 : decode c_HoldQueueLaw_law 485 = .ok (.iconst 1, 1) := by decide +kernel
theorem d_HoldQueueLaw_law_486 : decode c_HoldQueueLaw_law 486 = .ok (.iadd, 1) := by decide +kernel
theorem d_HoldQueueLaw_law_487 : decode c_HoldQueueLaw_law 487 = .ok (.iaload, 1) := by decide +kernel
theorem d_HoldQueueLaw_law_488 : decode c_HoldQueueLaw_law 488 = .ok (.invokevirtual 63, 3) := by decide +kernel
theorem d_HoldQueueLaw_law_491 : decode c_HoldQueueLaw_law 491 = .ok (.pop, 1) := by decide +kernel
theorem d_HoldQueueLaw_law_492 : decode c_HoldQueueLaw_law 492 = .ok (.goto 211, 3) := by decide +kernel
theorem d_HoldQueueLaw_law_495 : decode c_HoldQueueLaw_law 495 = .ok (.aload_n 1, 1) := by decide +kernel
theorem d_HoldQueueLaw_law_496 : decode c_HoldQueueLaw_law 496 = .ok (.aload_n 0, 1) := by decide +kernel
theorem d_HoldQueueLaw_law_497 : decode c_HoldQueueLaw_law 497 = .ok (.iload_n 3, 1) := by decide +kernel
theorem d_HoldQueueLaw_law_498 : decode c_HoldQueueLaw_law 498 = .ok (.iconst 1, 1) := by decide +kernel
theorem d_HoldQueueLaw_law_499 : decode c_HoldQueueLaw_law 499 = .ok (.iadd, 1) := by decide +kernel
theorem d_HoldQueueLaw_law_500 : decode c_HoldQueueLaw_law 500 = .ok (.iaload, 1) := by decide +kernel
theorem d_HoldQueueLaw_law_501 : decode c_HoldQueueLaw_law 501 = .ok (.i2l, 1) := by decide +kernel
theorem d_HoldQueueLaw_law_502 : decode c_HoldQueueLaw_law 502 = .ok (.bipush 32, 2) := by decide +kernel
theorem d_HoldQueueLaw_law_504 : decode c_HoldQueueLaw_law 504 = .ok (.lshl, 1) := by decide +kernel
theorem d_HoldQueueLaw_law_505 : decode c_HoldQueueLaw_law 505 = .ok (.aload_n 0, 1) := by decide +kernel
theorem d_HoldQueueLaw_law_506 : decode c_HoldQueueLaw_law 506 = .ok (.iload_n 3, 1) := by decide +kernel
theorem d_HoldQueueLaw_law_507 : decode c_HoldQueueLaw_law 507 = .ok (.iconst 2, 1) := by decide +kernel
theorem d_HoldQueueLaw_law_508 : decode c_HoldQueueLaw_law 508 = .ok (.iadd, 1) := by decide +kernel
theorem d_HoldQueueLaw_law_509 : decode c_HoldQueueLaw_law 509 = .ok (.iaload, 1) := by decide +kernel
theorem d_HoldQueueLaw_law_510 : decode c_HoldQueueLaw_law 510 = .ok (.i2l, 1) := by decide +kernel
theorem d_HoldQueueLaw_law_511 : decode c_HoldQueueLaw_law 511 = .ok (.ldc2_w 37, 3) := by decide +kernel
theorem d_HoldQueueLaw_law_514 : decode c_HoldQueueLaw_law 514 = .ok (.land, 1) := by decide +kernel
theorem d_HoldQueueLaw_law_515 : decode c_HoldQueueLaw_law 515 = .ok (.lor, 1) := by decide +kernel
theorem d_HoldQueueLaw_law_516 : decode c_HoldQueueLaw_law 516 = .ok (.invokevirtual 64, 3) := by decide +kernel
theorem d_HoldQueueLaw_law_519 : decode c_HoldQueueLaw_law 519 = .ok (.aload_n 2, 1) := by decide +kernel
theorem d_HoldQueueLaw_law_520 : decode c_HoldQueueLaw_law 520 = .ok (.aload_n 0, 1) := by decide +kernel
theorem d_HoldQueueLaw_law_521 : decode c_HoldQueueLaw_law 521 = .ok (.iload_n 3, 1) := by decide +kernel
theorem d_HoldQueueLaw_law_522 : decode c_HoldQueueLaw_law 522 = .ok (.iconst 1, 1) := by decide +kernel
theorem d_HoldQueueLaw_law_523 : decode c_HoldQueueLaw_law 523 = .ok (.iadd, 1) := by decide +kernel
theorem d_HoldQueueLaw_law_524 : decode c_HoldQueueLaw_law 524 = .ok (.iaload, 1) := by decide +kernel
theorem d_HoldQueueLaw_law_525 : decode c_HoldQueueLaw_law 525 = .ok (.i2l, 1) := by decide +kernel
theorem d_HoldQueueLaw_law_526 : decode c_HoldQueueLaw_law 526 = .ok (.bipush 32, 2) := by decide +kernel
theorem d_HoldQueueLaw_law_528 : decode c_HoldQueueLaw_law 528 = .ok (.lshl, 1) := by decide +kernel
theorem d_HoldQueueLaw_law_529 : decode c_HoldQueueLaw_law 529 = .ok (.aload_n 0, 1) := by decide +kernel
theorem d_HoldQueueLaw_law_530 : decode c_HoldQueueLaw_law 530 = .ok (.iload_n 3, 1) := by decide +kernel
theorem d_HoldQueueLaw_law_531 : decode c_HoldQueueLaw_law 531 = .ok (.iconst 2, 1) := by decide +kernel
theorem d_HoldQueueLaw_law_532 : decode c_HoldQueueLaw_law 532 = .ok (.iadd, 1) := by decide +kernel
theorem d_HoldQueueLaw_law_533 : decode c_HoldQueueLaw_law 533 = .ok (.iaload, 1) := by decide +kernel
theorem d_HoldQueueLaw_law_534 : decode c_HoldQueueLaw_law 534 = .ok (.i2l, 1) := by decide +kernel
theorem d_HoldQueueLaw_law_535 : decode c_HoldQueueLaw_law 535 = .ok (.ldc2_w 37, 3) := by decide +kernel
theorem d_HoldQueueLaw_law_538 : decode c_HoldQueueLaw_law 538 = .ok (.land, 1) := by decide +kernel
theorem d_HoldQueueLaw_law_539 : decode c_HoldQueueLaw_law 539 = .ok (.lor, 1) := by decide +kernel
theorem d_HoldQueueLaw_law_540 : decode c_HoldQueueLaw_law 540 = .ok (.invokevirtual 68, 3) := by decide +kernel
theorem d_HoldQueueLaw_law_543 : decode c_HoldQueueLaw_law 543 = .ok (.if_icmp .eq 160, 3) := by decide +kernel
theorem d_HoldQueueLaw_law_546 : decode c_HoldQueueLaw_law 546 = .ok (.iconst 0, 1) := by decide +kernel
theorem d_HoldQueueLaw_law_547 : decode c_HoldQueueLaw_law 547 = .ok (.ireturn, 1) := by decide +kernel
theorem d_HoldQueueLaw_law_548 : decode c_HoldQueueLaw_law 548 = .ok (.aload_n 1, 1) := by decide +kernel
theorem d_HoldQueueLaw_law_549 : decode c_HoldQueueLaw_law 549 = .ok (.aload_n 0, 1) := by decide +kernel
theorem d_HoldQueueLaw_law_550 : decode c_HoldQueueLaw_law 550 = .ok (.iload_n 3, 1) := by decide +kernel
theorem d_HoldQueueLaw_law_551 : decode c_HoldQueueLaw_law 551 = .ok (.iconst 1, 1) := by decide +kernel
theorem d_HoldQueueLaw_law_552 : decode c_HoldQueueLaw_law 552 = .ok (.iadd, 1) := by decide +kernel
theorem d_HoldQueueLaw_law_553 : decode c_HoldQueueLaw_law 553 = .ok (.iaload, 1) := by decide +kernel
theorem d_HoldQueueLaw_law_554 : decode c_HoldQueueLaw_law 554 = .ok (.invokevirtual 69, 3) := by decide +kernel
theorem d_HoldQueueLaw_law_557 : decode c_HoldQueueLaw_law 557 = .ok (.pop, 1) := by decide +kernel
theorem d_HoldQueueLaw_law_558 : decode c_HoldQueueLaw_law 558 = .ok (.aload_n 2, 1) := by decide +kernel
theorem d_HoldQueueLaw_law_559 : decode c_HoldQueueLaw_law 559 = .ok (.aload_n 0, 1) := by decide +kernel
theorem d_HoldQueueLaw_law_560 : decode c_HoldQueueLaw_law 560 = .ok (.iload_n 3, 1) := by decide +kernel
theorem d_HoldQueueLaw_law_561 : decode c_HoldQueueLaw_law 561 = .ok (.iconst 1, 1) := by decide +kernel
theorem d_HoldQueueLaw_law_562 : decode c_HoldQueueLaw_law 562 = .ok (.iadd, 1) := by decide +kernel
theorem d_HoldQueueLaw_law_563 : decode c_HoldQueueLaw_law 563 = .ok (.iaload, 1) := by decide +kernel
theorem d_HoldQueueLaw_law_564 : decode c_HoldQueueLaw_law 564 = .ok (.invokevirtual 72, 3) := by decide +kernel
theorem d_HoldQueueLaw_law_567 : decode c_HoldQueueLaw_law 567 = .ok (.pop, 1) := by decide +kernel
theorem d_HoldQueueLaw_law_568 : decode c_HoldQueueLaw_law 568 = .ok (.goto 135, 3) := by decide +kernel
theorem d_HoldQueueLaw_law_571 : decode c_HoldQueueLaw_law 571 = .ok (.aload_n 1, 1) := by decide +kernel
theorem d_HoldQueueLaw_law_572 : decode c_HoldQueueLaw_law 572 = .ok (.aload_n 0, 1) := by decide +kernel
theorem d_HoldQueueLaw_law_573 : decode c_HoldQueueLaw_law 573 = .ok (.iload_n 3, 1) := by decide +kernel
theorem d_HoldQueueLaw_law_574 : decode c_HoldQueueLaw_law 574 = .ok (.iconst 1, 1) := by decide +kernel
theorem d_HoldQueueLaw_law_575 : decode c_HoldQueueLaw_law 575 = .ok (.iadd, 1) := by decide +kernel
theorem d_HoldQueueLaw_law_576 : decode c_HoldQueueLaw_law 576 = .ok (.iaload, 1) := by decide +kernel
theorem d_HoldQueueLaw_law_577 : decode c_HoldQueueLaw_law 577 = .ok (.aload_n 0, 1) := by decide +kernel
theorem d_HoldQueueLaw_law_578 : decode c_HoldQueueLaw_law 578 = .ok (.iload_n 3, 1) := by decide +kernel
theorem d_HoldQueueLaw_law_579 : decode c_HoldQueueLaw_law 579 = .ok (.iconst 2, 1) := by decide +kernel
theorem d_HoldQueueLaw_law_580 : decode c_HoldQueueLaw_law 580 = .ok (.iadd, 1) := by decide +kernel
theorem d_HoldQueueLaw_law_581 : decode c_HoldQueueLaw_law 581 = .ok (.iaload, 1) := by decide +kernel
theorem d_HoldQueueLaw_law_582 : decode c_HoldQueueLaw_law 582 = .ok (.invokevirtual 73, 3) := by decide +kernel
theorem d_HoldQueueLaw_law_585 : decode c_HoldQueueLaw_law 585 = .ok (.pop, 1) := by decide +kernel
theorem d_HoldQueueLaw_law_586 : decode c_HoldQueueLaw_law 586 = .ok (.aload_n 2, 1) := by decide +kernel
theorem d_HoldQueueLaw_law_587 : decode c_HoldQueueLaw_law 587 = .ok (.aload_n 0, 1) := by decide +kernel
theorem d_HoldQueueLaw_law_588 : decode c_HoldQueueLaw_law 588 = .ok (.iload_n 3, 1) := by decide +kernel
theorem d_HoldQueueLaw_law_589 : decode c_HoldQueueLaw_law 589 = .ok (.iconst 1, 1) := by decide +kernel
theorem d_HoldQueueLaw_law_590 : decode c_HoldQueueLaw_law 590 = .ok (.iadd, 1) := by decide +kernel
theorem d_HoldQueueLaw_law_591 : decode c_HoldQueueLaw_law 591 = .ok (.iaload, 1) := by decide +kernel
theorem d_HoldQueueLaw_law_592 : decode c_HoldQueueLaw_law 592 = .ok (.aload_n 0, 1) := by decide +kernel
theorem d_HoldQueueLaw_law_593 : decode c_HoldQueueLaw_law 593 = .ok (.iload_n 3, 1) := by decide +kernel
theorem d_HoldQueueLaw_law_594 : decode c_HoldQueueLaw_law 594 = .ok (.iconst 2, 1) := by decide +kernel
theorem d_HoldQueueLaw_law_595 : decode c_HoldQueueLaw_law 595 = .ok (.iadd, 1) := by decide +kernel
theorem d_HoldQueueLaw_law_596 : decode c_HoldQueueLaw_law 596 = .ok (.iaload, 1) := by decide +kernel
theorem d_HoldQueueLaw_law_597 : decode c_HoldQueueLaw_law 597 = .ok (.invokevirtual 76, 3) := by decide +kernel
theorem d_HoldQueueLaw_law_600 : decode c_HoldQueueLaw_law 600 = .ok (.pop, 1) := by decide +kernel
theorem d_HoldQueueLaw_law_601 : decode c_HoldQueueLaw_law 601 = .ok (.goto 102, 3) := by decide +kernel
theorem d_HoldQueueLaw_law_604 : decode c_HoldQueueLaw_law 604 = .ok (.aload_n 1, 1) := by decide +kernel
theorem d_HoldQueueLaw_law_605 : decode c_HoldQueueLaw_law 605 = .ok (.aload_n 0, 1) := by decide +kernel
theorem d_HoldQueueLaw_law_606 : decode c_HoldQueueLaw_law 606 = .ok (.iload_n 3, 1) := by decide +kernel
theorem d_HoldQueueLaw_law_607 : decode c_HoldQueueLaw_law 607 = .ok (.iconst 1, 1) := by decide +kernel
theorem d_HoldQueueLaw_law_608 : decode c_HoldQueueLaw_law 608 = .ok (.iadd, 1) := by decide +kernel
theorem d_HoldQueueLaw_law_609 : decode c_HoldQueueLaw_law 609 = .ok (.iaload, 1) := by decide +kernel
theorem d_HoldQueueLaw_law_610 : decode c_HoldQueueLaw_law 610 = .ok (.aload_n 0, 1) := by decide +kernel
theorem d_HoldQueueLaw_law_611 : decode c_HoldQueueLaw_law 611 = .ok (.iload_n 3, 1) := by decide +kernel
theorem d_HoldQueueLaw_law_612 : decode c_HoldQueueLaw_law 612 = .ok (.iconst 2, 1) := by decide +kernel
theorem d_HoldQueueLaw_law_613 : decode c_HoldQueueLaw_law 613 = .ok (.iadd, 1) := by decide +kernel
theorem d_HoldQueueLaw_law_614 : decode c_HoldQueueLaw_law 614 = .ok (.iaload, 1) := by decide +kernel
theorem d_HoldQueueLaw_law_615 : decode c_HoldQueueLaw_law 615 = .ok (.invokevirtual 77, 3) := by decide +kernel
theorem d_HoldQueueLaw_law_618 : decode c_HoldQueueLaw_law 618 = .ok (.pop, 1) := by decide +kernel
theorem d_HoldQueueLaw_law_619 : decode c_HoldQueueLaw_law 619 = .ok (.aload_n 2, 1) := by decide +kernel
theorem d_HoldQueueLaw_law_620 : decode c_HoldQueueLaw_law 620 = .ok (.aload_n 0, 1) := by decide +kernel
theorem d_HoldQueueLaw_law_621 : decode c_HoldQueueLaw_law 621 = .ok (.iload_n 3, 1) := by decide +kernel
theorem d_HoldQueueLaw_law_622 : decode c_HoldQueueLaw_law 622 = .ok (.iconst 1, 1) := by decide +kernel
theorem d_HoldQueueLaw_law_623 : decode c_HoldQueueLaw_law 623 = .ok (.iadd, 1) := by decide +kernel
theorem d_HoldQueueLaw_law_624 : decode c_HoldQueueLaw_law 624 = .ok (.iaload, 1) := by decide +kernel
theorem d_HoldQueueLaw_law_625 : decode c_HoldQueueLaw_law 625 = .ok (.aload_n 0, 1) := by decide +kernel
theorem d_HoldQueueLaw_law_626 : decode c_HoldQueueLaw_law 626 = .ok (.iload_n 3, 1) := by decide +kernel
theorem d_HoldQueueLaw_law_627 : decode c_HoldQueueLaw_law 627 = .ok (.iconst 2, 1) := by decide +kernel
theorem d_HoldQueueLaw_law_628 : decode c_HoldQueueLaw_law 628 = .ok (.iadd, 1) := by decide +kernel
theorem d_HoldQueueLaw_law_629 : decode c_HoldQueueLaw_law 629 = .ok (.iaload, 1) := by decide +kernel
theorem d_HoldQueueLaw_law_630 : decode c_HoldQueueLaw_law 630 = .ok (.invokevirtual 80, 3) := by decide +kernel
theorem d_HoldQueueLaw_law_633 : decode c_HoldQueueLaw_law 633 = .ok (.pop, 1) := by decide +kernel
theorem d_HoldQueueLaw_law_634 : decode c_HoldQueueLaw_law 634 = .ok (.goto 69, 3) := by decide +kernel
theorem d_HoldQueueLaw_law_637 : decode c_HoldQueueLaw_law 637 = .ok (.aload_n 1, 1) := by decide +kernel
theorem d_HoldQueueLaw_law_638 : decode c_HoldQueueLaw_law 638 = .ok (.aload_n 0, 1) := by decide +kernel
theorem d_HoldQueueLaw_law_639 : decode c_HoldQueueLaw_law 639 = .ok (.iload_n 3, 1) := by decide +kernel
theorem d_HoldQueueLaw_law_640 : decode c_HoldQueueLaw_law 640 = .ok (.iconst 1, 1) := by decide +kernel
theorem d_HoldQueueLaw_law_641 : decode c_HoldQueueLaw_law 641 = .ok (.iadd, 1) := by decide +kernel
theorem d_HoldQueueLaw_law_642 : decode c_HoldQueueLaw_law 642 = .ok (.iaload, 1) := by decide +kernel
theorem d_HoldQueueLaw_law_643 : decode c_HoldQueueLaw_law 643 = .ok (.aload_n 0, 1) := by decide +kernel
theorem d_HoldQueueLaw_law_644 : decode c_HoldQueueLaw_law 644 = .ok (.iload_n 3, 1) := by decide +kernel
theorem d_HoldQueueLaw_law_645 : decode c_HoldQueueLaw_law 645 = .ok (.iconst 2, 1) := by decide +kernel
theorem d_HoldQueueLaw_law_646 : decode c_HoldQueueLaw_law 646 = .ok (.iadd, 1) := by decide +kernel
theorem d_HoldQueueLaw_law_647 : decode c_HoldQueueLaw_law 647 = .ok (.iaload, 1) := by decide +kernel
theorem d_HoldQueueLaw_law_648 : decode c_HoldQueueLaw_law 648 = .ok (.invokevirtual 81, 3) := by decide +kernel
theorem d_HoldQueueLaw_law_651 : decode c_HoldQueueLaw_law 651 = .ok (.pop, 1) := by decide +kernel
theorem d_HoldQueueLaw_law_652 : decode c_HoldQueueLaw_law 652 = .ok (.aload_n 2, 1) := by decide +kernel
theorem d_HoldQueueLaw_law_653 : decode c_HoldQueueLaw_law 653 = .ok (.aload_n 0, 1) := by decide +kernel
theorem d_HoldQueueLaw_law_654 : decode c_HoldQueueLaw_law 654 = .ok (.iload_n 3, 1) := by decide +kernel
theorem d_HoldQueueLaw_law_655 : decode c_HoldQueueLaw_law 655 = .ok (.iconst 1, 1) := by decide +kernel
theorem d_HoldQueueLaw_law_656 : decode c_HoldQueueLaw_law 656 = .ok (.iadd, 1) := by decide +kernel
theorem d_HoldQueueLaw_law_657 : decode c_HoldQueueLaw_law 657 = .ok (.iaload, 1) := by decide +kernel
theorem d_HoldQueueLaw_law_658 : decode c_HoldQueueLaw_law 658 = .ok (.aload_n 0, 1) := by decide +kernel
theorem d_HoldQueueLaw_law_659 : decode c_HoldQueueLaw_law 659 = .ok (.iload_n 3, 1) := by decide +kernel
theorem d_HoldQueueLaw_law_660 : decode c_HoldQueueLaw_law 660 = .ok (.iconst 2, 1) := by decide +kernel
theorem d_HoldQueueLaw_law_661 : decode c_HoldQueueLaw_law 661 = .ok (.iadd, 1) := by decide +kernel
theorem d_HoldQueueLaw_law_662 : decode c_HoldQueueLaw_law 662 = .ok (.iaload, 1) := by decide +kernel
theorem d_HoldQueueLaw_law_663 : decode c_HoldQueueLaw_law 663 = .ok (.invokevirtual 84, 3) := by decide +kernel
theorem d_HoldQueueLaw_law_666 : decode c_HoldQueueLaw_law 666 = .ok (.pop, 1) := by decide +kernel
theorem d_HoldQueueLaw_law_667 : decode c_HoldQueueLaw_law 667 = .ok (.goto 36, 3) := by decide +kernel
theorem d_HoldQueueLaw_law_670 : decode c_HoldQueueLaw_law 670 = .ok (.aload_n 1, 1) := by decide +kernel
theorem d_HoldQueueLaw_law_671 : decode c_HoldQueueLaw_law 671 = .ok (.aload_n 0, 1) := by decide +kernel
theorem d_HoldQueueLaw_law_672 : decode c_HoldQueueLaw_law 672 = .ok (.iload_n 3, 1) := by decide +kernel
theorem d_HoldQueueLaw_law_673 : decode c_HoldQueueLaw_law 673 = .ok (.iconst 1, 1) := by decide +kernel
theorem d_HoldQueueLaw_law_674 : decode c_HoldQueueLaw_law 674 = .ok (.iadd, 1) := by decide +kernel
theorem d_HoldQueueLaw_law_675 : decode c_HoldQueueLaw_law 675 = .ok (.iaload, 1) := by decide +kernel
theorem d_HoldQueueLaw_law_676 : decode c_HoldQueueLaw_law 676 = .ok (.aload_n 0, 1) := by decide +kernel
theorem d_HoldQueueLaw_law_677 : decode c_HoldQueueLaw_law 677 = .ok (.iload_n 3, 1) := by decide +kernel
theorem d_HoldQueueLaw_law_678 : decode c_HoldQueueLaw_law 678 = .ok (.iconst 2, 1) := by decide +kernel
theorem d_HoldQueueLaw_law_679 : decode c_HoldQueueLaw_law 679 = .ok (.iadd, 1) := by decide +kernel
theorem d_HoldQueueLaw_law_680 : decode c_HoldQueueLaw_law 680 = .ok (.iaload, 1) := by decide +kernel
theorem d_HoldQueueLaw_law_681 : decode c_HoldQueueLaw_law 681 = .ok (.invokevirtual 85, 3) := by decide +kernel
theorem d_HoldQueueLaw_law_684 : decode c_HoldQueueLaw_law 684 = .ok (.pop, 1) := by decide +kernel
theorem d_HoldQueueLaw_law_685 : decode c_HoldQueueLaw_law 685 = .ok (.aload_n 2, 1) := by decide +kernel
theorem d_HoldQueueLaw_law_686 : decode c_HoldQueueLaw_law 686 = .ok (.aload_n 0, 1) := by decide +kernel
theorem d_HoldQueueLaw_law_687 : decode c_HoldQueueLaw_law 687 = .ok (.iload_n 3, 1) := by decide +kernel
theorem d_HoldQueueLaw_law_688 : decode c_HoldQueueLaw_law 688 = .ok (.iconst 1, 1) := by decide +kernel
theorem d_HoldQueueLaw_law_689 : decode c_HoldQueueLaw_law 689 = .ok (.iadd, 1) := by decide +kernel
theorem d_HoldQueueLaw_law_690 : decode c_HoldQueueLaw_law 690 = .ok (.iaload, 1) := by decide +kernel
theorem d_HoldQueueLaw_law_691 : decode c_HoldQueueLaw_law 691 = .ok (.aload_n 0, 1) := by decide +kernel
theorem d_HoldQueueLaw_law_692 : decode c_HoldQueueLaw_law 692 = .ok (.iload_n 3, 1) := by decide +kernel
theorem d_HoldQueueLaw_law_693 : decode c_HoldQueueLaw_law 693 = .ok (.iconst 2, 1) := by decide +kernel
theorem d_HoldQueueLaw_law_694 : decode c_HoldQueueLaw_law 694 = .ok (.iadd, 1) := by decide +kernel
theorem d_HoldQueueLaw_law_695 : decode c_HoldQueueLaw_law 695 = .ok (.iaload, 1) := by decide +kernel
theorem d_HoldQueueLaw_law_696 : decode c_HoldQueueLaw_law 696 = .ok (.invokevirtual 88, 3) := by decide +kernel
theorem d_HoldQueueLaw_law_699 : decode c_HoldQueueLaw_law 699 = .ok (.pop, 1) := by decide +kernel
theorem d_HoldQueueLaw_law_700 : decode c_HoldQueueLaw_law 700 = .ok (.goto 3, 3) := by decide +kernel
theorem d_HoldQueueLaw_law_703 : decode c_HoldQueueLaw_law 703 = .ok (.iinc 3 5, 3) := by decide +kernel
theorem d_HoldQueueLaw_law_706 : decode c_HoldQueueLaw_law 706 = .ok (.goto (-688), 3) := by decide +kernel
theorem d_HoldQueueLaw_law_709 : decode c_HoldQueueLaw_law 709 = .ok (.iconst 1, 1) := by decide +kernel
theorem d_HoldQueueLaw_law_710 : decode c_HoldQueueLaw_law 710 = .ok (.ireturn, 1) := by decide +kernel
