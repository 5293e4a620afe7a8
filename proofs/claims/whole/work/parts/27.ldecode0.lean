theorem dd_Law_law_0 : decode code 0 = .ok (.new 7, 3) := by decide +kernel
theorem dd_Law_law_3 : decode code 3 = .ok (.dup, 1) := by decide +kernel
theorem dd_Law_law_4 : decode code 4 = .ok (.aload_n 0, 1) := by decide +kernel
theorem dd_Law_law_5 : decode code 5 = .ok (.iconst 0, 1) := by decide +kernel
theorem dd_Law_law_6 : decode code 6 = .ok (.invokestatic 9, 3) := by decide +kernel
theorem dd_Law_law_9 : decode code 9 = .ok (.invokespecial 15, 3) := by decide +kernel
theorem dd_Law_law_12 : decode code 12 = .ok (.astore_n 1, 1) := by decide +kernel
theorem dd_Law_law_13 : decode code 13 = .ok (.new 18, 3) := by decide +kernel
theorem dd_Law_law_16 : decode code 16 = .ok (.dup, 1) := by decide +kernel
theorem dd_Law_law_17 : decode code 17 = .ok (.aload_n 0, 1) := by decide +kernel
theorem dd_Law_law_18 : decode code 18 = .ok (.iconst 0, 1) := by decide +kernel
theorem dd_Law_law_19 : decode code 19 = .ok (.invokestatic 9, 3) := by decide +kernel
theorem dd_Law_law_22 : decode code 22 = .ok (.invokespecial 20, 3) := by decide +kernel
theorem dd_Law_law_25 : decode code 25 = .ok (.astore_n 2, 1) := by decide +kernel
theorem dd_Law_law_26 : decode code 26 = .ok (.iconst 1, 1) := by decide +kernel
theorem dd_Law_law_27 : decode code 27 = .ok (.istore_n 3, 1) := by decide +kernel
theorem dd_Law_law_28 : decode code 28 = .ok (.iload_n 3, 1) := by decide +kernel
theorem dd_Law_law_29 : decode code 29 = .ok (.aload_n 0, 1) := by decide +kernel
theorem dd_Law_law_30 : decode code 30 = .ok (.arraylength, 1) := by decide +kernel
theorem dd_Law_law_31 : decode code 31 = .ok (.bipush 6, 2) := by decide +kernel
theorem dd_Law_law_33 : decode code 33 = .ok (.isub, 1) := by decide +kernel
theorem dd_Law_law_34 : decode code 34 = .ok (.if_icmp .gt 1038, 3) := by decide +kernel
theorem dd_Law_law_37 : decode code 37 = .ok (.aload_n 0, 1) := by decide +kernel
theorem dd_Law_law_38 : decode code 38 = .ok (.iload_n 3, 1) := by decide +kernel
theorem dd_Law_law_39 : decode code 39 = .ok (.iaload, 1) := by decide +kernel
theorem dd_Law_law_40 : decode code 40 = .ok (.bipush 31, 2) := by decide +kernel
theorem dd_Law_law_42 : decode code 42 = .ok (.iand, 1) := by decide +kernel
theorem dd_Law_law_43 : decode code 43 = .ok (.tableswitch 1023 0 19 #[93, 116, 185, 244, 313, 366, 399, 462, 541, 594, 673, 686, 709, 742, 775, 818, 861, 904, 947, 990], 93) := by decide +kernel
theorem dd_Law_law_136 : decode code 136 = .ok (.aload_n 1, 1) := by decide +kernel
theorem dd_Law_law_137 : decode code 137 = .ok (.aload_n 0, 1) := by decide +kernel
theorem dd_Law_law_138 : decode code 138 = .ok (.iload_n 3, 1) := by decide +kernel
theorem dd_Law_law_139 : decode code 139 = .ok (.iconst 1, 1) := by decide +kernel
theorem dd_Law_law_140 : decode code 140 = .ok (.iadd, 1) := by decide +kernel
theorem dd_Law_law_141 : decode code 141 = .ok (.iaload, 1) := by decide +kernel
theorem dd_Law_law_142 : decode code 142 = .ok (.invokevirtual 21, 3) := by decide +kernel
theorem dd_Law_law_145 : decode code 145 = .ok (.aload_n 2, 1) := by decide +kernel
theorem dd_Law_law_146 : decode code 146 = .ok (.aload_n 0, 1) := by decide +kernel
theorem dd_Law_law_147 : decode code 147 = .ok (.iload_n 3, 1) := by decide +kernel
theorem dd_Law_law_148 : decode code 148 = .ok (.iconst 1, 1) := by decide +kernel
theorem dd_Law_law_149 : decode code 149 = .ok (.iadd, 1) := by decide +kernel
theorem dd_Law_law_150 : decode code 150 = .ok (.iaload, 1) := by decide +kernel
theorem dd_Law_law_151 : decode code 151 = .ok (.invokevirtual 25, 3) := by decide +kernel
theorem dd_Law_law_154 : decode code 154 = .ok (.if_icmp .eq 912, 3) := by decide +kernel
theorem dd_Law_law_157 : decode code 157 = .ok (.iconst 0, 1) := by decide +kernel
theorem dd_Law_law_158 : decode code 158 = .ok (.ireturn, 1) := by decide +kernel
theorem dd_Law_law_159 : decode code 159 = .ok (.aload_n 1, 1) := by decide +kernel
theorem dd_Law_law_160 : decode code 160 = .ok (.aload_n 0, 1) := by decide +kernel
theorem dd_Law_law_161 : decode code 161 = .ok (.iload_n 3, 1) := by decide +kernel
theorem dd_Law_law_162 : decode code 162 = .ok (.iconst 1, 1) := by decide +kernel
theorem dd_Law_law_163 : decode code 163 = .ok (.iadd, 1) := by decide +kernel
theorem dd_Law_law_164 : decode code 164 = .ok (.iaload, 1) := by decide +kernel
theorem dd_Law_law_165 : decode code 165 = .ok (.aload_n 0, 1) := by decide +kernel
theorem dd_Law_law_166 : decode code 166 = .ok (.iload_n 3, 1) := by decide +kernel
theorem dd_Law_law_167 : decode code 167 = .ok (.iconst 2, 1) := by decide +kernel
theorem dd_Law_law_168 : decode code 168 = .ok (.iadd, 1) := by decide +kernel
theorem dd_Law_law_169 : decode code 169 = .ok (.iaload, 1) := by decide +kernel
theorem dd_Law_law_170 : decode code 170 = .ok (.aload_n 0, 1) := by decide +kernel
theorem dd_Law_law_171 : decode code 171 = .ok (.iload_n 3, 1) := by decide +kernel
theorem dd_Law_law_172 : decode code 172 = .ok (.iconst 3, 1) := by decide +kernel
theorem dd_Law_law_173 : decode code 173 = .ok (.iadd, 1) := by decide +kernel
theorem dd_Law_law_174 : decode code 174 = .ok (.iaload, 1) := by decide +kernel
theorem dd_Law_law_175 : decode code 175 = .ok (.aload_n 0, 1) := by decide +kernel
theorem dd_Law_law_176 : decode code 176 = .ok (.iload_n 3, 1) := by decide +kernel
theorem dd_Law_law_177 : decode code 177 = .ok (.iconst 4, 1) := by decide +kernel
theorem dd_Law_law_178 : decode code 178 = .ok (.iadd, 1) := by decide +kernel
theorem dd_Law_law_179 : decode code 179 = .ok (.iaload, 1) := by decide +kernel
theorem dd_Law_law_180 : decode code 180 = .ok (.ifCond .eq 7, 3) := by decide +kernel
theorem dd_Law_law_183 : decode code 183 = .ok (.iconst 1, 1) := by decide +kernel
theorem dd_Law_law_184 : decode code 184 = .ok (.goto 4, 3) := by decide +kernel
theorem dd_Law_law_187 : decode code 187 = .ok (.iconst 0, 1) := by decide +kernel
theorem dd_Law_law_188 : decode code 188 = .ok (.invokevirtual 26, 3) := by decide +kernel
theorem dd_Law_law_191 : decode code 191 = .ok (.aload_n 2, 1) := by decide +kernel
theorem dd_Law_law_192 : decode code 192 = .ok (.aload_n 0, 1) := by decide +kernel
theorem dd_Law_law_193 : decode code 193 = .ok (.iload_n 3, 1) := by decide +kernel
theorem dd_Law_law_194 : decode code 194 = .ok (.iconst 1, 1) := by decide +kernel
theorem dd_Law_law_195 : decode code 195 = .ok (.iadd, 1) := by decide +kernel
theorem dd_Law_law_196 : decode code 196 = .ok (.iaload, 1) := by decide +kernel
theorem dd_Law_law_197 : decode code 197 = .ok (.aload_n 0, 1) := by decide +kernel
theorem dd_Law_law_198 : decode code 198 = .ok (.iload_n 3, 1) := by decide +kernel
theorem dd_Law_law_199 : decode code 199 = .ok (.iconst 2, 1) := by decide +kernel
theorem dd_Law_law_200 : decode code 200 = .ok (.iadd, 1) := by decide +kernel
theorem dd_Law_law_201 : decode code 201 = .ok (.iaload, 1) := by decide +kernel
theorem dd_Law_law_202 : decode code 202 = .ok (.aload_n 0, 1) := by decide +kernel
theorem dd_Law_law_203 : decode code 203 = .ok (.iload_n 3, 1) := by decide +kernel
theorem dd_Law_law_204 : decode code 204 = .ok (.iconst 3, 1) := by decide +kernel
theorem dd_Law_law_205 : decode code 205 = .ok (.iadd, 1) := by decide +kernel
theorem dd_Law_law_206 : decode code 206 = .ok (.iaload, 1) := by decide +kernel
theorem dd_Law_law_207 : decode code 207 = .ok (.aload_n 0, 1) := by decide +kernel
theorem dd_Law_law_208 : decode code 208 = .ok (.iload_n 3, 1) := by decide +kernel
theorem dd_Law_law_209 : decode code 209 = .ok (.iconst 4, 1) := by decide +kernel
theorem dd_Law_law_210 : decode code 210 = .ok (.iadd, 1) := by decide +kernel
theorem dd_Law_law_211 : decode code 211 = .ok (.iaload, 1) := by decide +kernel
theorem dd_Law_law_212 : decode code 212 = .ok (.ifCond .eq 7, 3) := by decide +kernel
theorem dd_Law_law_215 : decode code 215 = .ok (.iconst 1, 1) := by decide +kernel
theorem dd_Law_law_216 : decode code 216 = .ok (.goto 4, 3) := by decide +kernel
theorem dd_Law_law_219 : decode code 219 = .ok (.iconst 0, 1) := by decide +kernel
theorem dd_Law_law_220 : decode code 220 = .ok (.invokevirtual 30, 3) := by decide +kernel
theorem dd_Law_law_223 : decode code 223 = .ok (.if_icmp .eq 843, 3) := by decide +kernel
theorem dd_Law_law_226 : decode code 226 = .ok (.iconst 0, 1) := by decide +kernel
theorem dd_Law_law_227 : decode code 227 = .ok (.ireturn, 1) := by decide +kernel
theorem dd_Law_law_228 : decode code 228 = .ok (.aload_n 1, 1) := by decide +kernel
theorem dd_Law_law_229 : decode code 229 = .ok (.aload_n 0, 1) := by decide +kernel
theorem dd_Law_law_230 : decode code 230 = .ok (.iload_n 3, 1) := by decide +kernel
theorem dd_Law_law_231 : decode code 231 = .ok (.iconst 1, 1) := by decide +kernel
theorem dd_Law_law_232 : decode code 232 = .ok (.iadd, 1) := by decide +kernel
theorem dd_Law_law_233 : decode code 233 = .ok (.iaload, 1) := by decide +kernel
theorem dd_Law_law_234 : decode code 234 = .ok (.aload_n 0, 1) := by decide +kernel
theorem dd_Law_law_235 : decode code 235 = .ok (.iload_n 3, 1) := by decide +kernel
theorem dd_Law_law_236 : decode code 236 = .ok (.iconst 2, 1) := by decide +kernel
theorem dd_Law_law_237 : decode code 237 = .ok (.iadd, 1) := by decide +kernel
theorem dd_Law_law_238 : decode code 238 = .ok (.iaload, 1) := by decide +kernel
theorem dd_Law_law_239 : decode code 239 = .ok (.aload_n 0, 1) := by decide +kernel
theorem dd_Law_law_240 : decode code 240 = .ok (.iload_n 3, 1) := by decide +kernel
theorem dd_Law_law_241 : decode code 241 = .ok (.iconst 3, 1) := by decide +kernel
theorem dd_Law_law_242 : decode code 242 = .ok (.iadd, 1) := by decide +kernel
theorem dd_Law_law_243 : decode code 243 = .ok (.iaload, 1) := by decide +kernel
theorem dd_Law_law_244 : decode code 244 = .ok (.ifCond .eq 7, 3) := by decide +kernel
theorem dd_Law_law_247 : decode code 247 = .ok (.iconst 1, 1) := by decide +kernel
theorem dd_Law_law_248 : decode code 248 = .ok (.goto 4, 3) := by decide +kernel
theorem dd_Law_law_251 : decode code 251 = .ok (.iconst 0, 1) := by decide +kernel
theorem dd_Law_law_252 : decode code 252 = .ok (.invokevirtual 31, 3) := by decide +kernel
theorem dd_Law_law_255 : decode code 255 = .ok (.aload_n 2, 1) := by decide +kernel
theorem dd_Law_law_256 : decode code 256 = .ok (.aload_n 0, 1) := by decide +kernel
theorem dd_Law_law_257 : decode code 257 = .ok (.iload_n 3, 1) := by decide +kernel
theorem dd_Law_law_258 : decode code 258 = .ok (.iconst 1, 1) := by decide +kernel
theorem dd_Law_law_259 : decode code 259 = .ok (.iadd, 1) := by decide +kernel
theorem dd_Law_law_260 : decode code 260 = .ok (.iaload, 1) := by decide +kernel
theorem dd_Law_law_261 : decode code 261 = .ok (.aload_n 0, 1) := by decide +kernel
theorem dd_Law_law_262 : decode code 262 = .ok (.iload_n 3, 1) := by decide +kernel
theorem dd_Law_law_263 : decode code 263 = .ok (.iconst 2, 1) := by decide +kernel
theorem dd_Law_law_264 : decode code 264 = .ok (.iadd, 1) := by decide +kernel
theorem dd_Law_law_265 : decode code 265 = .ok (.iaload, 1) := by decide +kernel
theorem dd_Law_law_266 : decode code 266 = .ok (.aload_n 0, 1) := by decide +kernel
theorem dd_Law_law_267 : decode code 267 = .ok (.iload_n 3, 1) := by decide +kernel
theorem dd_Law_law_268 : decode code 268 = .ok (.iconst 3, 1) := by decide +kernel
theorem dd_Law_law_269 : decode code 269 = .ok (.iadd, 1) := by decide +kernel
theorem dd_Law_law_270 : decode code 270 = .ok (.iaload, 1) := by decide +kernel
theorem dd_Law_law_271 : decode code 271 = .ok (.ifCond .eq 7, 3) := by decide +kernel
theorem dd_Law_law_274 : decode code 274 = .ok (.iconst 1, 1) := by decide +kernel
theorem dd_Law_law_275 : decode code 275 = .ok (.goto 4, 3) := by decide +kernel
theorem dd_Law_law_278 : decode code 278 = .ok (.iconst 0, 1) := by decide +kernel
theorem dd_Law_law_279 : decode code 279 = .ok (.invokevirtual 35, 3) := by decide +kernel
theorem dd_Law_law_282 : decode code 282 = .ok (.if_icmp .eq 784, 3) := by decide +kernel
theorem dd_Law_law_285 : decode code 285 = .ok (.iconst 0, 1) := by decide +kernel
theorem dd_Law_law_286 : decode code 286 = .ok (.ireturn, 1) := by decide +kernel
theorem dd_Law_law_287 : decode code 287 = .ok (.aload_n 1, 1) := by decide +kernel
theorem dd_Law_law_288 : decode code 288 = .ok (.aload_n 0, 1) := by decide +kernel
theorem dd_Law_law_289 : decode code 289 = .ok (.iload_n 3, 1) := by decide +kernel
theorem dd_Law_law_290 : decode code 290 = .ok (.iconst 1, 1) := by decide +kernel
theorem dd_Law_law_291 : decode code 291 = .ok (.iadd, 1) := by decide +kernel
theorem dd_Law_law_292 : decode code 292 = .ok (.iaload, 1) := by decide +kernel
theorem dd_Law_law_293 : decode code 293 = .ok (.aload_n 0, 1) := by decide +kernel
theorem dd_Law_law_294 : decode code 294 = .ok (.iload_n 3, 1) := by decide +kernel
theorem dd_Law_law_295 : decode code 295 = .ok (.iconst 2, 1) := by decide +kernel
theorem dd_Law_law_296 : decode code 296 = .ok (.iadd, 1) := by decide +kernel
theorem dd_Law_law_297 : decode code 297 = .ok (.iaload, 1) := by decide +kernel
theorem dd_Law_law_298 : decode code 298 = .ok (.aload_n 0, 1) := by decide +kernel
theorem dd_Law_law_299 : decode code 299 = .ok (.iload_n 3, 1) := by decide +kernel
theorem dd_Law_law_300 : decode code 300 = .ok (.iconst 3, 1) := by decide +kernel
theorem dd_Law_law_301 : decode code 301 = .ok (.iadd, 1) := by decide +kernel
theorem dd_Law_law_302 : decode code 302 = .ok (.iaload, 1) := by decide +kernel
theorem dd_Law_law_303 : decode code 303 = .ok (.ifCond .eq 7, 3) := by decide +kernel
theorem dd_Law_law_306 : decode code 306 = .ok (.iconst 1, 1) := by decide +kernel
theorem dd_Law_law_307 : decode code 307 = .ok (.goto 4, 3) := by decide +kernel
theorem dd_Law_law_310 : decode code 310 = .ok (.iconst 0, 1) := by decide +kernel
theorem dd_Law_law_311 : decode code 311 = .ok (.aload_n 0, 1) := by decide +kernel
theorem dd_Law_law_312 : decode code 312 = .ok (.iload_n 3, 1) := by decide +kernel
theorem dd_Law_law_313 : decode code 313 = .ok (.iconst 4, 1) := by decide +kernel
theorem dd_Law_law_314 : decode code 314 = .ok (.iadd, 1) := by decide +kernel
theorem dd_Law_law_315 : decode code 315 = .ok (.iaload, 1) := by decide +kernel
theorem dd_Law_law_316 : decode code 316 = .ok (.invokevirtual 36, 3) := by decide +kernel
theorem dd_Law_law_319 : decode code 319 = .ok (.aload_n 2, 1) := by decide +kernel
theorem dd_Law_law_320 : decode code 320 = .ok (.aload_n 0, 1) := by decide +kernel
theorem dd_Law_law_321 : decode code 321 = .ok (.iload_n 3, 1) := by decide +kernel
theorem dd_Law_law_322 : decode code 322 = .ok (.iconst 1, 1) := by decide +kernel
theorem dd_Law_law_323 : decode code 323 = .ok (.iadd, 1) := by decide +kernel
theorem dd_Law_law_324 : decode code 324 = .ok (.iaload, 1) := by decide +kernel
theorem dd_Law_law_325 : decode code 325 = .ok (.aload_n 0, 1) := by decide +kernel
theorem dd_Law_law_326 : decode code 326 = .ok (.iload_n 3, 1) := by decide +kernel
theorem dd_Law_law_327 : decode code 327 = .ok (.iconst 2, 1) := by decide +kernel
theorem dd_Law_law_328 : decode code 328 = .ok (.iadd, 1) := by decide +kernel
theorem dd_Law_law_329 : decode code 329 = .ok (.iaload, 1) := by decide +kernel
theorem dd_Law_law_330 : decode code 330 = .ok (.aload_n 0, 1) := by decide +kernel
theorem dd_Law_law_331 : decode code 331 = .ok (.iload_n 3, 1) := by decide +kernel
theorem dd_Law_law_332 : decode code 332 = .ok (.iconst 3, 1) := by decide +kernel
theorem dd_Law_law_333 : decode code 333 = .ok (.iadd, 1) := by decide +kernel
theorem dd_Law_law_334 : decode code 334 = .ok (.iaload, 1) := by decide +kernel
theorem dd_Law_law_335 : decode code 335 = .ok (.ifCond .eq 7, 3) := by decide +kernel
theorem dd_Law_law_338 : decode code 338 = .ok (.iconst 1, 1) := by decide +kernel
theorem dd_Law_law_339 : decode code 339 = .ok (.goto 4, 3) := by decide +kernel
theorem dd_Law_law_342 : decode code 342 = .ok (.iconst 0, 1) := by decide +kernel
theorem dd_Law_law_343 : decode code 343 = .ok (.aload_n 0, 1) := by decide +kernel
theorem dd_Law_law_344 : decode code 344 = .ok (.iload_n 3, 1) := by decide +kernel
theorem dd_Law_law_345 : decode code 345 = .ok (.iconst 4, 1) := by decide +kernel
theorem dd_Law_law_346 : decode code 346 = .ok (.iadd, 1) := by decide +kernel
theorem dd_Law_law_347 : decode code 347 = .ok (.iaload, 1) := by decide +kernel
theorem dd_Law_law_348 : decode code 348 = .ok (.invokevirtual 40, 3) := by decide +kernel
theorem dd_Law_law_351 : decode code 351 = .ok (.if_icmp .eq 715, 3) := by decide +kernel
theorem dd_Law_law_354 : decode code 354 = .ok (.iconst 0, 1) := by decide +kernel
theorem dd_Law_law_355 : decode code 355 = .ok (.ireturn, 1) := by decide +kernel
theorem dd_Law_law_356 : decode code 356 = .ok (.aload_n 1, 1) := by decide +kernel
theorem dd_Law_law_357 : decode code 357 = .ok (.aload_n 0, 1) := by decide +kernel
theorem dd_Law_law_358 : decode code 358 = .ok (.iload_n 3, 1) := by decide +kernel
theorem dd_Law_law_359 : decode code 359 = .ok (.iconst 1, 1) := by decide +kernel
theorem dd_Law_law_360 : decode code 360 = .ok (.iadd, 1) := by decide +kernel
theorem dd_Law_law_361 : decode code 361 = .ok (.iaload, 1) := by decide +kernel
theorem dd_Law_law_362 : decode code 362 = .ok (.aload_n 0, 1) := by decide +kernel
theorem dd_Law_law_363 : decode code 363 = .ok (.iload_n 3, 1) := by decide +kernel
theorem dd_Law_law_364 : decode code 364 = .ok (.iconst 2, 1) := by decide +kernel
theorem dd_Law_law_365 : decode code 365 = .ok (.iadd, 1) := by decide +kernel
theorem dd_Law_law_366 : decode code 366 = .ok (.iaload, 1) := by decide +kernel
theorem dd_Law_law_367 : decode code 367 = .ok (.aload_n 0, 1) := by decide +kernel
theorem dd_Law_law_368 : decode code 368 = .ok (.iload_n 3, 1) := by decide +kernel
theorem dd_Law_law_369 : decode code 369 = .ok (.iconst 3, 1) := by decide +kernel
theorem dd_Law_law_370 : decode code 370 = .ok (.iadd, 1) := by decide +kernel
theorem dd_Law_law_371 : decode code 371 = .ok (.iaload, 1) := by decide +kernel
theorem dd_Law_law_372 : decode code 372 = .ok (.aload_n 0, 1) := by decide +kernel
theorem dd_Law_law_373 : decode code 373 = .ok (.iload_n 3, 1) := by decide +kernel
theorem dd_Law_law_374 : decode code 374 = .ok (.iconst 4, 1) := by decide +kernel
theorem dd_Law_law_375 : decode code 375 = .ok (.iadd, 1) := by decide +kernel
theorem dd_Law_law_376 : decode code 376 = .ok (.iaload, 1) := by decide +kernel
theorem dd_Law_law_377 : decode code 377 = .ok (.invokevirtual 41, 3) := by decide +kernel
theorem dd_Law_law_380 : decode code 380 = .ok (.aload_n 2, 1) := by decide +kernel
theorem dd_Law_law_381 : decode code 381 = .ok (.aload_n 0, 1) := by decide +kernel
theorem dd_Law_law_382 : decode code 382 = .ok (.iload_n 3, 1) := by decide +kernel
theorem dd_Law_law_383 : decode code 383 = .ok (.iconst 1, 1) := by decide +kernel
theorem dd_Law_law_384 : decode code 384 = .ok (.iadd, 1) := by decide +kernel
theorem dd_Law_law_385 : decode code 385 = .ok (.iaload, 1) := by decide +kernel
theorem dd_Law_law_386 : decode code 386 = .ok (.aload_n 0, 1) := by decide +kernel
theorem dd_Law_law_387 : decode code 387 = .ok (.iload_n 3, 1) := by decide +kernel
theorem dd_Law_law_388 : decode code 388 = .ok (.iconst 2, 1) := by decide +kernel
theorem dd_Law_law_389 : decode code 389 = .ok (.iadd, 1) := by decide +kernel
theorem dd_Law_law_390 : decode code 390 = .ok (.iaload, 1) := by decide +kernel
theorem dd_Law_law_391 : decode code 391 = .ok (.aload_n 0, 1) := by decide +kernel
theorem dd_Law_law_392 : decode code 392 = .ok (.iload_n 3, 1) := by decide +kernel
theorem dd_Law_law_393 : decode code 393 = .ok (.iconst 3, 1) := by decide +kernel
theorem dd_Law_law_394 : decode code 394 = .ok (.iadd, 1) := by decide +kernel
theorem dd_Law_law_395 : decode code 395 = .ok (.iaload, 1) := by decide +kernel
theorem dd_Law_law_396 : decode code 396 = .ok (.aload_n 0, 1) := by decide +kernel
theorem dd_Law_law_397 : decode code 397 = .ok (.iload_n 3, 1) := by decide +kernel
theorem dd_Law_law_398 : decode code 398 = .ok (.iconst 4, 1) := by decide +kernel
theorem dd_Law_law_399 : decode code 399 = .ok (.iadd, 1) := by decide +kernel
theorem dd_Law_law_400 : decode code 400 = .ok (.iaload, 1) := by decide +kernel
theorem dd_Law_law_401 : decode code 401 = .ok (.invokevirtual 45, 3) := by decide +kernel
theorem dd_Law_law_404 : decode code 404 = .ok (.if_icmp .eq 662, 3) := by decide +kernel
theorem dd_Law_law_407 : decode code 407 = .ok (.iconst 0, 1) := by decide +kernel
theorem dd_Law_law_408 : decode code 408 = .ok (.ireturn, 1) := by decide +kernel
theorem dd_Law_law_409 : decode code 409 = .ok (.aload_n 1, 1) := by decide +kernel
theorem dd_Law_law_410 : decode code 410 = .ok (.aload_n 0, 1) := by decide +kernel
theorem dd_Law_law_411 : decode code 411 = .ok (.iload_n 3, 1) := by decide +kernel
theorem dd_Law_law_412 : decode code 412 = .ok (.iconst 1, 1) := by decide +kernel
theorem dd_Law_law_413 : decode code 413 = .ok (.iadd, 1) := by decide +kernel
theorem dd_Law_law_414 : decode code 414 = .ok (.iaload, 1) := by decide +kernel
theorem dd_Law_law_415 : decode code 415 = .ok (.aload_n 0, 1) := by decide +kernel
theorem dd_Law_law_416 : decode code 416 = .ok (.iload_n 3, 1) := by decide +kernel
theorem dd_Law_law_417 : decode code 417 = .ok (.iconst 2, 1) := by decide +kernel
theorem dd_Law_law_418 : decode code 418 = .ok (.iadd, 1) := by decide +kernel
theorem dd_Law_law_419 : decode code 419 = .ok (.iaload, 1) := by decide +kernel
theorem dd_Law_law_420 : decode code 420 = .ok (.invokevirtual 46, 3) := by decide +kernel
theorem dd_Law_law_423 : decode code 423 = .ok (.aload_n 2, 1) := by decide +kernel
theorem dd_Law_law_424 : decode code 424 = .ok (.aload_n 0, 1) := by decide +kernel
theorem dd_Law_law_425 : decode code 425 = .ok (.iload_n 3, 1) := by decide +kernel
theorem dd_Law_law_426 : decode code 426 = .ok (.iconst 1, 1) := by decide +kernel
theorem dd_Law_law_427 : decode code 427 = .ok (.iadd, 1) := by decide +kernel
theorem dd_Law_law_428 : decode code 428 = .ok (.iaload, 1) := by decide +kernel
theorem dd_Law_law_429 : decode code 429 = .ok (.aload_n 0, 1) := by decide +kernel
theorem dd_Law_law_430 : decode code 430 = .ok (.iload_n 3, 1) := by decide +kernel
theorem dd_Law_law_431 : decode code 431 = .ok (.iconst 2, 1) := by decide +kernel
theorem dd_Law_law_432 : decode code 432 = .ok (.iadd, 1) := by decide +kernel
theorem dd_Law_law_433 : decode code 433 = .ok (.iaload, 1) := by decide +kernel
theorem dd_Law_law_434 : decode code 434 = .ok (.invokevirtual 50, 3) := by decide +kernel
theorem dd_Law_law_437 : decode code 437 = .ok (.if_icmp .eq 629, 3) := by decide +kernel
theorem dd_Law_law_440 : decode code 440 = .ok (.iconst 0, 1) := by decide +kernel
theorem dd_Law_law_441 : decode code 441 = .ok (.ireturn, 1) := by decide +kernel
theorem dd_Law_law_442 : decode code 442 = .ok (.aload_n 1, 1) := by decide +kernel
theorem dd_Law_law_443 : decode code 443 = .ok (.aload_n 0, 1) := by decide +kernel
theorem dd_Law_law_444 : decode code 444 = .ok (.iload_n 3, 1) := by decide +kernel
theorem dd_Law_law_445 : decode code 445 = .ok (.iconst 1, 1) := by decide +kernel
theorem dd_Law_law_446 : decode code 446 = .ok (.iadd, 1) := by decide +kernel
theorem dd_Law_law_447 : decode code 447 = .ok (.iaload, 1) := by decide +kernel
theorem dd_Law_law_448 : decode code 448 = .ok (.aload_n 0, 1) := by decide +kernel
theorem dd_Law_law_449 : decode code 449 = .ok (.iload_n 3, 1) := by decide +kernel
theorem dd_Law_law_450 : decode code 450 = .ok (.iconst 2, 1) := by decide +kernel
theorem dd_Law_law_451 : decode code 451 = .ok (.iadd, 1) := by decide +kernel
theorem dd_Law_law_452 : decode code 452 = .ok (.iaload, 1) := by decide +kernel
theorem dd_Law_law_453 : decode code 453 = .ok (.aload_n 0, 1) := by decide +kernel
theorem dd_Law_law_454 : decode code 454 = .ok (.iload_n 3, 1) := by decide +kernel
theorem dd_Law_law_455 : decode code 455 = .ok (.iconst 3, 1) := by decide +kernel
theorem dd_Law_law_456 : decode code 456 = .ok (.iadd, 1) := by decide +kernel
theorem dd_Law_law_457 : decode code 457 = .ok (.iaload, 1) := by decide +kernel
theorem dd_Law_law_458 : decode code 458 = .ok (.aload_n 0, 1) := by decide +kernel
theorem dd_Law_law_459 : decode code 459 = .ok (.iload_n 3, 1) := by decide +kernel
theorem dd_Law_law_460 : decode code 460 = .ok (.iconst 4, 1) := by decide +kernel
theorem dd_Law_law_461 : decode code 461 = .ok (.iadd, 1) := by decide +kernel
theorem dd_Law_law_462 : decode code 462 = .ok (.iaload, 1) := by decide +kernel
theorem dd_Law_law_463 : decode code 463 = .ok (.aload_n 0, 1) := by decide +kernel
theorem dd_Law_law_464 : decode code 464 = .ok (.iload_n 3, 1) := by decide +kernel
theorem dd_Law_law_465 : decode code 465 = .ok (.iconst 5, 1) := by decide +kernel
theorem dd_Law_law_466 : decode code 466 = .ok (.iadd, 1) := by decide +kernel
theorem dd_Law_law_467 : decode code 467 = .ok (.iaload, 1) := by decide +kernel
