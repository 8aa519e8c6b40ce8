/-! the law: its instructions -/
theorem dl_16 : decode code 16 = .ok (.iconst 0, 1) := by decide +kernel
theorem dl_17 : decode code 17 = .ok (.istore_n 3, 1) := by decide +kernel
theorem dl_18 : decode code 18 = .ok (.iload_n 3, 1) := by decide +kernel
theorem dl_19 : decode code 19 = .ok (.aload_n 0, 1) := by decide +kernel
theorem dl_20 : decode code 20 = .ok (.arraylength, 1) := by decide +kernel
theorem dl_21 : decode code 21 = .ok (.bipush 6, 2) := by decide +kernel
theorem dl_23 : decode code 23 = .ok (.isub, 1) := by decide +kernel
theorem dl_24 : decode code 24 = .ok (.if_icmp .gt 545, 3) := by decide +kernel
theorem dl_27 : decode code 27 = .ok (.aload_n 0, 1) := by decide +kernel
theorem dl_28 : decode code 28 = .ok (.iload_n 3, 1) := by decide +kernel
theorem dl_29 : decode code 29 = .ok (.iaload, 1) := by decide +kernel
theorem dl_30 : decode code 30 = .ok (.bipush 15, 2) := by decide +kernel
theorem dl_32 : decode code 32 = .ok (.iand, 1) := by decide +kernel
theorem dl_33 : decode code 33 = .ok (.tableswitch 530 0 14 #[75, 108, 161, 204, 267, 290, 303, 316, 359, 392, 435, 448, 471, 494, 517], 75) := by decide +kernel
theorem dl_108 : decode code 108 = .ok (.aload_n 1, 1) := by decide +kernel
theorem dl_109 : decode code 109 = .ok (.aload_n 0, 1) := by decide +kernel
theorem dl_110 : decode code 110 = .ok (.iload_n 3, 1) := by decide +kernel
theorem dl_111 : decode code 111 = .ok (.iconst 1, 1) := by decide +kernel
theorem dl_112 : decode code 112 = .ok (.iadd, 1) := by decide +kernel
theorem dl_113 : decode code 113 = .ok (.iaload, 1) := by decide +kernel
theorem dl_114 : decode code 114 = .ok (.aload_n 0, 1) := by decide +kernel
theorem dl_115 : decode code 115 = .ok (.iload_n 3, 1) := by decide +kernel
theorem dl_116 : decode code 116 = .ok (.iconst 2, 1) := by decide +kernel
theorem dl_117 : decode code 117 = .ok (.iadd, 1) := by decide +kernel
theorem dl_118 : decode code 118 = .ok (.iaload, 1) := by decide +kernel
theorem dl_119 : decode code 119 = .ok (.invokevirtual 13, 3) := by decide +kernel
theorem dl_122 : decode code 122 = .ok (.aload_n 2, 1) := by decide +kernel
theorem dl_123 : decode code 123 = .ok (.aload_n 0, 1) := by decide +kernel
theorem dl_124 : decode code 124 = .ok (.iload_n 3, 1) := by decide +kernel
theorem dl_125 : decode code 125 = .ok (.iconst 1, 1) := by decide +kernel
theorem dl_126 : decode code 126 = .ok (.iadd, 1) := by decide +kernel
theorem dl_127 : decode code 127 = .ok (.iaload, 1) := by decide +kernel
theorem dl_128 : decode code 128 = .ok (.aload_n 0, 1) := by decide +kernel
theorem dl_129 : decode code 129 = .ok (.iload_n 3, 1) := by decide +kernel
theorem dl_130 : decode code 130 = .ok (.iconst 2, 1) := by decide +kernel
theorem dl_131 : decode code 131 = .ok (.iadd, 1) := by decide +kernel
theorem dl_132 : decode code 132 = .ok (.iaload, 1) := by decide +kernel
theorem dl_133 : decode code 133 = .ok (.invokevirtual 17, 3) := by decide +kernel
theorem dl_136 : decode code 136 = .ok (.if_icmp .eq 427, 3) := by decide +kernel
theorem dl_139 : decode code 139 = .ok (.iconst 0, 1) := by decide +kernel
theorem dl_140 : decode code 140 = .ok (.ireturn, 1) := by decide +kernel
theorem dl_141 : decode code 141 = .ok (.aload_n 1, 1) := by decide +kernel
theorem dl_142 : decode code 142 = .ok (.aload_n 0, 1) := by decide +kernel
theorem dl_143 : decode code 143 = .ok (.iload_n 3, 1) := by decide +kernel
theorem dl_144 : decode code 144 = .ok (.iconst 1, 1) := by decide +kernel
theorem dl_145 : decode code 145 = .ok (.iadd, 1) := by decide +kernel
theorem dl_146 : decode code 146 = .ok (.iaload, 1) := by decide +kernel
theorem dl_147 : decode code 147 = .ok (.aload_n 0, 1) := by decide +kernel
theorem dl_148 : decode code 148 = .ok (.iload_n 3, 1) := by decide +kernel
theorem dl_149 : decode code 149 = .ok (.iconst 2, 1) := by decide +kernel
theorem dl_150 : decode code 150 = .ok (.iadd, 1) := by decide +kernel
theorem dl_151 : decode code 151 = .ok (.iaload, 1) := by decide +kernel
theorem dl_152 : decode code 152 = .ok (.aload_n 0, 1) := by decide +kernel
theorem dl_153 : decode code 153 = .ok (.iload_n 3, 1) := by decide +kernel
theorem dl_154 : decode code 154 = .ok (.iconst 3, 1) := by decide +kernel
theorem dl_155 : decode code 155 = .ok (.iadd, 1) := by decide +kernel
theorem dl_156 : decode code 156 = .ok (.iaload, 1) := by decide +kernel
theorem dl_157 : decode code 157 = .ok (.aload_n 0, 1) := by decide +kernel
theorem dl_158 : decode code 158 = .ok (.iload_n 3, 1) := by decide +kernel
theorem dl_159 : decode code 159 = .ok (.iconst 4, 1) := by decide +kernel
theorem dl_160 : decode code 160 = .ok (.iadd, 1) := by decide +kernel
theorem dl_161 : decode code 161 = .ok (.iaload, 1) := by decide +kernel
theorem dl_162 : decode code 162 = .ok (.invokevirtual 18, 3) := by decide +kernel
theorem dl_165 : decode code 165 = .ok (.aload_n 2, 1) := by decide +kernel
theorem dl_166 : decode code 166 = .ok (.aload_n 0, 1) := by decide +kernel
theorem dl_167 : decode code 167 = .ok (.iload_n 3, 1) := by decide +kernel
theorem dl_168 : decode code 168 = .ok (.iconst 1, 1) := by decide +kernel
theorem dl_169 : decode code 169 = .ok (.iadd, 1) := by decide +kernel
theorem dl_170 : decode code 170 = .ok (.iaload, 1) := by decide +kernel
theorem dl_171 : decode code 171 = .ok (.aload_n 0, 1) := by decide +kernel
theorem dl_172 : decode code 172 = .ok (.iload_n 3, 1) := by decide +kernel
theorem dl_173 : decode code 173 = .ok (.iconst 2, 1) := by decide +kernel
theorem dl_174 : decode code 174 = .ok (.iadd, 1) := by decide +kernel
theorem dl_175 : decode code 175 = .ok (.iaload, 1) := by decide +kernel
theorem dl_176 : decode code 176 = .ok (.aload_n 0, 1) := by decide +kernel
theorem dl_177 : decode code 177 = .ok (.iload_n 3, 1) := by decide +kernel
theorem dl_178 : decode code 178 = .ok (.iconst 3, 1) := by decide +kernel
theorem dl_179 : decode code 179 = .ok (.iadd, 1) := by decide +kernel
theorem dl_180 : decode code 180 = .ok (.iaload, 1) := by decide +kernel
theorem dl_181 : decode code 181 = .ok (.aload_n 0, 1) := by decide +kernel
theorem dl_182 : decode code 182 = .ok (.iload_n 3, 1) := by decide +kernel
theorem dl_183 : decode code 183 = .ok (.iconst 4, 1) := by decide +kernel
theorem dl_184 : decode code 184 = .ok (.iadd, 1) := by decide +kernel
theorem dl_185 : decode code 185 = .ok (.iaload, 1) := by decide +kernel
theorem dl_186 : decode code 186 = .ok (.invokevirtual 22, 3) := by decide +kernel
theorem dl_189 : decode code 189 = .ok (.if_icmp .eq 374, 3) := by decide +kernel
theorem dl_192 : decode code 192 = .ok (.iconst 0, 1) := by decide +kernel
theorem dl_193 : decode code 193 = .ok (.ireturn, 1) := by decide +kernel
theorem dl_194 : decode code 194 = .ok (.aload_n 1, 1) := by decide +kernel
theorem dl_195 : decode code 195 = .ok (.aload_n 0, 1) := by decide +kernel
theorem dl_196 : decode code 196 = .ok (.iload_n 3, 1) := by decide +kernel
theorem dl_197 : decode code 197 = .ok (.iconst 1, 1) := by decide +kernel
theorem dl_198 : decode code 198 = .ok (.iadd, 1) := by decide +kernel
theorem dl_199 : decode code 199 = .ok (.iaload, 1) := by decide +kernel
theorem dl_200 : decode code 200 = .ok (.aload_n 0, 1) := by decide +kernel
theorem dl_201 : decode code 201 = .ok (.iload_n 3, 1) := by decide +kernel
theorem dl_202 : decode code 202 = .ok (.iconst 2, 1) := by decide +kernel
theorem dl_203 : decode code 203 = .ok (.iadd, 1) := by decide +kernel
theorem dl_204 : decode code 204 = .ok (.iaload, 1) := by decide +kernel
theorem dl_205 : decode code 205 = .ok (.aload_n 0, 1) := by decide +kernel
theorem dl_206 : decode code 206 = .ok (.iload_n 3, 1) := by decide +kernel
theorem dl_207 : decode code 207 = .ok (.iconst 3, 1) := by decide +kernel
theorem dl_208 : decode code 208 = .ok (.iadd, 1) := by decide +kernel
theorem dl_209 : decode code 209 = .ok (.iaload, 1) := by decide +kernel
theorem dl_210 : decode code 210 = .ok (.invokevirtual 23, 3) := by decide +kernel
theorem dl_213 : decode code 213 = .ok (.aload_n 2, 1) := by decide +kernel
theorem dl_214 : decode code 214 = .ok (.aload_n 0, 1) := by decide +kernel
theorem dl_215 : decode code 215 = .ok (.iload_n 3, 1) := by decide +kernel
theorem dl_216 : decode code 216 = .ok (.iconst 1, 1) := by decide +kernel
theorem dl_217 : decode code 217 = .ok (.iadd, 1) := by decide +kernel
theorem dl_218 : decode code 218 = .ok (.iaload, 1) := by decide +kernel
theorem dl_219 : decode code 219 = .ok (.aload_n 0, 1) := by decide +kernel
theorem dl_220 : decode code 220 = .ok (.iload_n 3, 1) := by decide +kernel
theorem dl_221 : decode code 221 = .ok (.iconst 2, 1) := by decide +kernel
theorem dl_222 : decode code 222 = .ok (.iadd, 1) := by decide +kernel
theorem dl_223 : decode code 223 = .ok (.iaload, 1) := by decide +kernel
theorem dl_224 : decode code 224 = .ok (.aload_n 0, 1) := by decide +kernel
theorem dl_225 : decode code 225 = .ok (.iload_n 3, 1) := by decide +kernel
theorem dl_226 : decode code 226 = .ok (.iconst 3, 1) := by decide +kernel
theorem dl_227 : decode code 227 = .ok (.iadd, 1) := by decide +kernel
theorem dl_228 : decode code 228 = .ok (.iaload, 1) := by decide +kernel
theorem dl_229 : decode code 229 = .ok (.invokevirtual 27, 3) := by decide +kernel
theorem dl_232 : decode code 232 = .ok (.if_icmp .eq 331, 3) := by decide +kernel
theorem dl_235 : decode code 235 = .ok (.iconst 0, 1) := by decide +kernel
theorem dl_236 : decode code 236 = .ok (.ireturn, 1) := by decide +kernel
theorem dl_237 : decode code 237 = .ok (.aload_n 1, 1) := by decide +kernel
theorem dl_238 : decode code 238 = .ok (.aload_n 0, 1) := by decide +kernel
theorem dl_239 : decode code 239 = .ok (.iload_n 3, 1) := by decide +kernel
theorem dl_240 : decode code 240 = .ok (.iconst 1, 1) := by decide +kernel
theorem dl_241 : decode code 241 = .ok (.iadd, 1) := by decide +kernel
theorem dl_242 : decode code 242 = .ok (.iaload, 1) := by decide +kernel
theorem dl_243 : decode code 243 = .ok (.aload_n 0, 1) := by decide +kernel
theorem dl_244 : decode code 244 = .ok (.iload_n 3, 1) := by decide +kernel
theorem dl_245 : decode code 245 = .ok (.iconst 2, 1) := by decide +kernel
theorem dl_246 : decode code 246 = .ok (.iadd, 1) := by decide +kernel
theorem dl_247 : decode code 247 = .ok (.iaload, 1) := by decide +kernel
theorem dl_248 : decode code 248 = .ok (.aload_n 0, 1) := by decide +kernel
theorem dl_249 : decode code 249 = .ok (.iload_n 3, 1) := by decide +kernel
theorem dl_250 : decode code 250 = .ok (.iconst 3, 1) := by decide +kernel
theorem dl_251 : decode code 251 = .ok (.iadd, 1) := by decide +kernel
theorem dl_252 : decode code 252 = .ok (.iaload, 1) := by decide +kernel
theorem dl_253 : decode code 253 = .ok (.aload_n 0, 1) := by decide +kernel
theorem dl_254 : decode code 254 = .ok (.iload_n 3, 1) := by decide +kernel
theorem dl_255 : decode code 255 = .ok (.iconst 4, 1) := by decide +kernel
theorem dl_256 : decode code 256 = .ok (.iadd, 1) := by decide +kernel
theorem dl_257 : decode code 257 = .ok (.iaload, 1) := by decide +kernel
theorem dl_258 : decode code 258 = .ok (.aload_n 0, 1) := by decide +kernel
theorem dl_259 : decode code 259 = .ok (.iload_n 3, 1) := by decide +kernel
theorem dl_260 : decode code 260 = .ok (.iconst 5, 1) := by decide +kernel
theorem dl_261 : decode code 261 = .ok (.iadd, 1) := by decide +kernel
theorem dl_262 : decode code 262 = .ok (.iaload, 1) := by decide +kernel
theorem dl_263 : decode code 263 = .ok (.invokevirtual 28, 3) := by decide +kernel
theorem dl_266 : decode code 266 = .ok (.aload_n 2, 1) := by decide +kernel
theorem dl_267 : decode code 267 = .ok (.aload_n 0, 1) := by decide +kernel
theorem dl_268 : decode code 268 = .ok (.iload_n 3, 1) := by decide +kernel
theorem dl_269 : decode code 269 = .ok (.iconst 1, 1) := by decide +kernel
theorem dl_270 : decode code 270 = .ok (.iadd, 1) := by decide +kernel
theorem dl_271 : decode code 271 = .ok (.iaload, 1) := by decide +kernel
theorem dl_272 : decode code 272 = .ok (.aload_n 0, 1) := by decide +kernel
theorem dl_273 : decode code 273 = .ok (.iload_n 3, 1) := by decide +kernel
theorem dl_274 : decode code 274 = .ok (.iconst 2, 1) := by decide +kernel
theorem dl_275 : decode code 275 = .ok (.iadd, 1) := by decide +kernel
theorem dl_276 : decode code 276 = .ok (.iaload, 1) := by decide +kernel
theorem dl_277 : decode code 277 = .ok (.aload_n 0, 1) := by decide +kernel
theorem dl_278 : decode code 278 = .ok (.iload_n 3, 1) := by decide +kernel
theorem dl_279 : decode code 279 = .ok (.iconst 3, 1) := by decide +kernel
theorem dl_280 : decode code 280 = .ok (.iadd, 1) := by decide +kernel
theorem dl_281 : decode code 281 = .ok (.iaload, 1) := by decide +kernel
theorem dl_282 : decode code 282 = .ok (.aload_n 0, 1) := by decide +kernel
theorem dl_283 : decode code 283 = .ok (.iload_n 3, 1) := by decide +kernel
theorem dl_284 : decode code 284 = .ok (.iconst 4, 1) := by decide +kernel
theorem dl_285 : decode code 285 = .ok (.iadd, 1) := by decide +kernel
theorem dl_286 : decode code 286 = .ok (.iaload, 1) := by decide +kernel
theorem dl_287 : decode code 287 = .ok (.aload_n 0, 1) := by decide +kernel
theorem dl_288 : decode code 288 = .ok (.iload_n 3, 1) := by decide +kernel
theorem dl_289 : decode code 289 = .ok (.iconst 5, 1) := by decide +kernel
theorem dl_290 : decode code 290 = .ok (.iadd, 1) := by decide +kernel
theorem dl_291 : decode code 291 = .ok (.iaload, 1) := by decide +kernel
theorem dl_292 : decode code 292 = .ok (.invokevirtual 32, 3) := by decide +kernel
theorem dl_295 : decode code 295 = .ok (.if_icmp .eq 268, 3) := by decide +kernel
theorem dl_298 : decode code 298 = .ok (.iconst 0, 1) := by decide +kernel
theorem dl_299 : decode code 299 = .ok (.ireturn, 1) := by decide +kernel
theorem dl_300 : decode code 300 = .ok (.aload_n 1, 1) := by decide +kernel
theorem dl_301 : decode code 301 = .ok (.aload_n 0, 1) := by decide +kernel
theorem dl_302 : decode code 302 = .ok (.iload_n 3, 1) := by decide +kernel
theorem dl_303 : decode code 303 = .ok (.iconst 1, 1) := by decide +kernel
theorem dl_304 : decode code 304 = .ok (.iadd, 1) := by decide +kernel
theorem dl_305 : decode code 305 = .ok (.iaload, 1) := by decide +kernel
theorem dl_306 : decode code 306 = .ok (.invokevirtual 33, 3) := by decide +kernel
theorem dl_309 : decode code 309 = .ok (.aload_n 2, 1) := by decide +kernel
theorem dl_310 : decode code 310 = .ok (.aload_n 0, 1) := by decide +kernel
theorem dl_311 : decode code 311 = .ok (.iload_n 3, 1) := by decide +kernel
theorem dl_312 : decode code 312 = .ok (.iconst 1, 1) := by decide +kernel
theorem dl_313 : decode code 313 = .ok (.iadd, 1) := by decide +kernel
theorem dl_314 : decode code 314 = .ok (.iaload, 1) := by decide +kernel
theorem dl_315 : decode code 315 = .ok (.invokevirtual 37, 3) := by decide +kernel
theorem dl_318 : decode code 318 = .ok (.if_icmp .eq 245, 3) := by decide +kernel
theorem dl_321 : decode code 321 = .ok (.iconst 0, 1) := by decide +kernel
theorem dl_322 : decode code 322 = .ok (.ireturn, 1) := by decide +kernel
theorem dl_323 : decode code 323 = .ok (.aload_n 1, 1) := by decide +kernel
theorem dl_324 : decode code 324 = .ok (.invokevirtual 38, 3) := by decide +kernel
theorem dl_327 : decode code 327 = .ok (.aload_n 2, 1) := by decide +kernel
theorem dl_328 : decode code 328 = .ok (.invokevirtual 42, 3) := by decide +kernel
theorem dl_331 : decode code 331 = .ok (.if_icmp .eq 232, 3) := by decide +kernel
theorem dl_334 : decode code 334 = .ok (.iconst 0, 1) := by decide +kernel
theorem dl_335 : decode code 335 = .ok (.ireturn, 1) := by decide +kernel
theorem dl_336 : decode code 336 = .ok (.aload_n 1, 1) := by decide +kernel
theorem dl_337 : decode code 337 = .ok (.invokevirtual 43, 3) := by decide +kernel
theorem dl_340 : decode code 340 = .ok (.aload_n 2, 1) := by decide +kernel
theorem dl_341 : decode code 341 = .ok (.invokevirtual 46, 3) := by decide +kernel
theorem dl_344 : decode code 344 = .ok (.if_icmp .eq 219, 3) := by decide +kernel
theorem dl_347 : decode code 347 = .ok (.iconst 0, 1) := by decide +kernel
theorem dl_348 : decode code 348 = .ok (.ireturn, 1) := by decide +kernel
theorem dl_349 : decode code 349 = .ok (.aload_n 1, 1) := by decide +kernel
theorem dl_350 : decode code 350 = .ok (.aload_n 0, 1) := by decide +kernel
theorem dl_351 : decode code 351 = .ok (.iload_n 3, 1) := by decide +kernel
theorem dl_352 : decode code 352 = .ok (.iconst 1, 1) := by decide +kernel
theorem dl_353 : decode code 353 = .ok (.iadd, 1) := by decide +kernel
theorem dl_354 : decode code 354 = .ok (.iaload, 1) := by decide +kernel
theorem dl_355 : decode code 355 = .ok (.aload_n 0, 1) := by decide +kernel
theorem dl_356 : decode code 356 = .ok (.iload_n 3, 1) := by decide +kernel
theorem dl_357 : decode code 357 = .ok (.iconst 2, 1) := by decide +kernel
theorem dl_358 : decode code 358 = .ok (.iadd, 1) := by decide +kernel
theorem dl_359 : decode code 359 = .ok (.iaload, 1) := by decide +kernel
theorem dl_360 : decode code 360 = .ok (.aload_n 0, 1) := by decide +kernel
theorem dl_361 : decode code 361 = .ok (.iload_n 3, 1) := by decide +kernel
theorem dl_362 : decode code 362 = .ok (.iconst 3, 1) := by decide +kernel
theorem dl_363 : decode code 363 = .ok (.iadd, 1) := by decide +kernel
theorem dl_364 : decode code 364 = .ok (.iaload, 1) := by decide +kernel
theorem dl_365 : decode code 365 = .ok (.invokevirtual 47, 3) := by decide +kernel
theorem dl_368 : decode code 368 = .ok (.aload_n 2, 1) := by decide +kernel
theorem dl_369 : decode code 369 = .ok (.aload_n 0, 1) := by decide +kernel
theorem dl_370 : decode code 370 = .ok (.iload_n 3, 1) := by decide +kernel
theorem dl_371 : decode code 371 = .ok (.iconst 1, 1) := by decide +kernel
theorem dl_372 : decode code 372 = .ok (.iadd, 1) := by decide +kernel
theorem dl_373 : decode code 373 = .ok (.iaload, 1) := by decide +kernel
theorem dl_374 : decode code 374 = .ok (.aload_n 0, 1) := by decide +kernel
theorem dl_375 : decode code 375 = .ok (.iload_n 3, 1) := by decide +kernel
theorem dl_376 : decode code 376 = .ok (.iconst 2, 1) := by decide +kernel
theorem dl_377 : decode code 377 = .ok (.iadd, 1) := by decide +kernel
theorem dl_378 : decode code 378 = .ok (.iaload, 1) := by decide +kernel
theorem dl_379 : decode code 379 = .ok (.aload_n 0, 1) := by decide +kernel
theorem dl_380 : decode code 380 = .ok (.iload_n 3, 1) := by decide +kernel
theorem dl_381 : decode code 381 = .ok (.iconst 3, 1) := by decide +kernel
theorem dl_382 : decode code 382 = .ok (.iadd, 1) := by decide +kernel
theorem dl_383 : decode code 383 = .ok (.iaload, 1) := by decide +kernel
theorem dl_384 : decode code 384 = .ok (.invokevirtual 50, 3) := by decide +kernel
theorem dl_387 : decode code 387 = .ok (.if_icmp .eq 176, 3) := by decide +kernel
theorem dl_390 : decode code 390 = .ok (.iconst 0, 1) := by decide +kernel
theorem dl_391 : decode code 391 = .ok (.ireturn, 1) := by decide +kernel
theorem dl_392 : decode code 392 = .ok (.aload_n 1, 1) := by decide +kernel
theorem dl_393 : decode code 393 = .ok (.aload_n 0, 1) := by decide +kernel
theorem dl_394 : decode code 394 = .ok (.iload_n 3, 1) := by decide +kernel
theorem dl_395 : decode code 395 = .ok (.iconst 1, 1) := by decide +kernel
theorem dl_396 : decode code 396 = .ok (.iadd, 1) := by decide +kernel
theorem dl_397 : decode code 397 = .ok (.iaload, 1) := by decide +kernel
theorem dl_398 : decode code 398 = .ok (.aload_n 0, 1) := by decide +kernel
theorem dl_399 : decode code 399 = .ok (.iload_n 3, 1) := by decide +kernel
theorem dl_400 : decode code 400 = .ok (.iconst 2, 1) := by decide +kernel
theorem dl_401 : decode code 401 = .ok (.iadd, 1) := by decide +kernel
theorem dl_402 : decode code 402 = .ok (.iaload, 1) := by decide +kernel
theorem dl_403 : decode code 403 = .ok (.invokevirtual 51, 3) := by decide +kernel
theorem dl_406 : decode code 406 = .ok (.aload_n 2, 1) := by decide +kernel
theorem dl_407 : decode code 407 = .ok (.aload_n 0, 1) := by decide +kernel
theorem dl_408 : decode code 408 = .ok (.iload_n 3, 1) := by decide +kernel
theorem dl_409 : decode code 409 = .ok (.iconst 1, 1) := by decide +kernel
theorem dl_410 : decode code 410 = .ok (.iadd, 1) := by decide +kernel
theorem dl_411 : decode code 411 = .ok (.iaload, 1) := by decide +kernel
theorem dl_412 : decode code 412 = .ok (.aload_n 0, 1) := by decide +kernel
theorem dl_413 : decode code 413 = .ok (.iload_n 3, 1) := by decide +kernel
theorem dl_414 : decode code 414 = .ok (.iconst 2, 1) := by decide +kernel
theorem dl_415 : decode code 415 = .ok (.iadd, 1) := by decide +kernel
theorem dl_416 : decode code 416 = .ok (.iaload, 1) := by decide +kernel
theorem dl_417 : decode code 417 = .ok (.invokevirtual 54, 3) := by decide +kernel
theorem dl_420 : decode code 420 = .ok (.if_icmp .eq 143, 3) := by decide +kernel
theorem dl_423 : decode code 423 = .ok (.iconst 0, 1) := by decide +kernel
theorem dl_424 : decode code 424 = .ok (.ireturn, 1) := by decide +kernel
theorem dl_425 : decode code 425 = .ok (.aload_n 1, 1) := by decide +kernel
theorem dl_426 : decode code 426 = .ok (.aload_n 0, 1) := by decide +kernel
theorem dl_427 : decode code 427 = .ok (.iload_n 3, 1) := by decide +kernel
theorem dl_428 : decode code 428 = .ok (.iconst 1, 1) := by decide +kernel
theorem dl_429 : decode code 429 = .ok (.iadd, 1) := by decide +kernel
theorem dl_430 : decode code 430 = .ok (.iaload, 1) := by decide +kernel
theorem dl_431 : decode code 431 = .ok (.aload_n 0, 1) := by decide +kernel
theorem dl_432 : decode code 432 = .ok (.iload_n 3, 1) := by decide +kernel
theorem dl_433 : decode code 433 = .ok (.iconst 2, 1) := by decide +kernel
theorem dl_434 : decode code 434 = .ok (.iadd, 1) := by decide +kernel
theorem dl_435 : decode code 435 = .ok (.iaload, 1) := by decide +kernel
theorem dl_436 : decode code 436 = .ok (.aload_n 0, 1) := by decide +kernel
theorem dl_437 : decode code 437 = .ok (.iload_n 3, 1) := by decide +kernel
theorem dl_438 : decode code 438 = .ok (.iconst 3, 1) := by decide +kernel
theorem dl_439 : decode code 439 = .ok (.iadd, 1) := by decide +kernel
theorem dl_440 : decode code 440 = .ok (.iaload, 1) := by decide +kernel
theorem dl_441 : decode code 441 = .ok (.invokevirtual 55, 3) := by decide +kernel
theorem dl_444 : decode code 444 = .ok (.aload_n 2, 1) := by decide +kernel
theorem dl_445 : decode code 445 = .ok (.aload_n 0, 1) := by decide +kernel
theorem dl_446 : decode code 446 = .ok (.iload_n 3, 1) := by decide +kernel
theorem dl_447 : decode code 447 = .ok (.iconst 1, 1) := by decide +kernel
theorem dl_448 : decode code 448 = .ok (.iadd, 1) := by decide +kernel
theorem dl_449 : decode code 449 = .ok (.iaload, 1) := by decide +kernel
theorem dl_450 : decode code 450 = .ok (.aload_n 0, 1) := by decide +kernel
theorem dl_451 : decode code 451 = .ok (.iload_n 3, 1) := by decide +kernel
theorem dl_452 : decode code 452 = .ok (.iconst 2, 1) := by decide +kernel
theorem dl_453 : decode code 453 = .ok (.iadd, 1) := by decide +kernel
theorem dl_454 : decode code 454 = .ok (.iaload, 1) := by decide +kernel
theorem dl_455 : decode code 455 = .ok (.aload_n 0, 1) := by decide +kernel
theorem dl_456 : decode code 456 = .ok (.iload_n 3, 1) := by decide +kernel
theorem dl_457 : decode code 457 = .ok (.iconst 3, 1) := by decide +kernel
theorem dl_458 : decode code 458 = .ok (.iadd, 1) := by decide +kernel
theorem dl_459 : decode code 459 = .ok (.iaload, 1) := by decide +kernel
theorem dl_460 : decode code 460 = .ok (.invokevirtual 58, 3) := by decide +kernel
theorem dl_463 : decode code 463 = .ok (.if_icmp .eq 100, 3) := by decide +kernel
theorem dl_466 : decode code 466 = .ok (.iconst 0, 1) := by decide +kernel
theorem dl_467 : decode code 467 = .ok (.ireturn, 1) := by decide +kernel
theorem dl_468 : decode code 468 = .ok (.aload_n 1, 1) := by decide +kernel
theorem dl_469 : decode code 469 = .ok (.invokevirtual 59, 3) := by decide +kernel
theorem dl_472 : decode code 472 = .ok (.aload_n 2, 1) := by decide +kernel
theorem dl_473 : decode code 473 = .ok (.invokevirtual 62, 3) := by decide +kernel
theorem dl_476 : decode code 476 = .ok (.if_icmp .eq 87, 3) := by decide +kernel
theorem dl_479 : decode code 479 = .ok (.iconst 0, 1) := by decide +kernel
theorem dl_480 : decode code 480 = .ok (.ireturn, 1) := by decide +kernel
theorem dl_481 : decode code 481 = .ok (.aload_n 1, 1) := by decide +kernel
theorem dl_482 : decode code 482 = .ok (.aload_n 0, 1) := by decide +kernel
theorem dl_483 : decode code 483 = .ok (.iload_n 3, 1) := by decide +kernel
theorem dl_484 : decode code 484 = .ok (.iconst 1, 1) := by decide +kernel
theorem dl_485 : decode code 485 = .ok (.iadd, 1) := by decide +kernel
theorem dl_486 : decode code 486 = .ok (.iaload, 1) := by decide +kernel
theorem dl_487 : decode code 487 = .ok (.invokevirtual 63, 3) := by decide +kernel
theorem dl_490 : decode code 490 = .ok (.aload_n 2, 1) := by decide +kernel
theorem dl_491 : decode code 491 = .ok (.aload_n 0, 1) := by decide +kernel
theorem dl_492 : decode code 492 = .ok (.iload_n 3, 1) := by decide +kernel
theorem dl_493 : decode code 493 = .ok (.iconst 1, 1) := by decide +kernel
theorem dl_494 : decode code 494 = .ok (.iadd, 1) := by decide +kernel
theorem dl_495 : decode code 495 = .ok (.iaload, 1) := by decide +kernel
theorem dl_496 : decode code 496 = .ok (.invokevirtual 66, 3) := by decide +kernel
theorem dl_499 : decode code 499 = .ok (.if_icmp .eq 64, 3) := by decide +kernel
theorem dl_502 : decode code 502 = .ok (.iconst 0, 1) := by decide +kernel
theorem dl_503 : decode code 503 = .ok (.ireturn, 1) := by decide +kernel
theorem dl_504 : decode code 504 = .ok (.aload_n 1, 1) := by decide +kernel
theorem dl_505 : decode code 505 = .ok (.aload_n 0, 1) := by decide +kernel
theorem dl_506 : decode code 506 = .ok (.iload_n 3, 1) := by decide +kernel
theorem dl_507 : decode code 507 = .ok (.iconst 1, 1) := by decide +kernel
theorem dl_508 : decode code 508 = .ok (.iadd, 1) := by decide +kernel
theorem dl_509 : decode code 509 = .ok (.iaload, 1) := by decide +kernel
theorem dl_510 : decode code 510 = .ok (.invokevirtual 67, 3) := by decide +kernel
theorem dl_513 : decode code 513 = .ok (.aload_n 2, 1) := by decide +kernel
theorem dl_514 : decode code 514 = .ok (.aload_n 0, 1) := by decide +kernel
theorem dl_515 : decode code 515 = .ok (.iload_n 3, 1) := by decide +kernel
theorem dl_516 : decode code 516 = .ok (.iconst 1, 1) := by decide +kernel
theorem dl_517 : decode code 517 = .ok (.iadd, 1) := by decide +kernel
theorem dl_518 : decode code 518 = .ok (.iaload, 1) := by decide +kernel
theorem dl_519 : decode code 519 = .ok (.invokevirtual 70, 3) := by decide +kernel
theorem dl_522 : decode code 522 = .ok (.if_icmp .eq 41, 3) := by decide +kernel
theorem dl_525 : decode code 525 = .ok (.iconst 0, 1) := by decide +kernel
theorem dl_526 : decode code 526 = .ok (.ireturn, 1) := by decide +kernel
theorem dl_527 : decode code 527 = .ok (.aload_n 1, 1) := by decide +kernel
theorem dl_528 : decode code 528 = .ok (.aload_n 0, 1) := by decide +kernel
theorem dl_529 : decode code 529 = .ok (.iload_n 3, 1) := by decide +kernel
theorem dl_530 : decode code 530 = .ok (.iconst 1, 1) := by decide +kernel
theorem dl_531 : decode code 531 = .ok (.iadd, 1) := by decide +kernel
theorem dl_532 : decode code 532 = .ok (.iaload, 1) := by decide +kernel
theorem dl_533 : decode code 533 = .ok (.invokevirtual 71, 3) := by decide +kernel
theorem dl_536 : decode code 536 = .ok (.aload_n 2, 1) := by decide +kernel
theorem dl_537 : decode code 537 = .ok (.aload_n 0, 1) := by decide +kernel
theorem dl_538 : decode code 538 = .ok (.iload_n 3, 1) := by decide +kernel
theorem dl_539 : decode code 539 = .ok (.iconst 1, 1) := by decide +kernel
theorem dl_540 : decode code 540 = .ok (.iadd, 1) := by decide +kernel
theorem dl_541 : decode code 541 = .ok (.iaload, 1) := by decide +kernel
theorem dl_542 : decode code 542 = .ok (.invokevirtual 74, 3) := by decide +kernel
theorem dl_545 : decode code 545 = .ok (.if_icmp .eq 18, 3) := by decide +kernel
theorem dl_548 : decode code 548 = .ok (.iconst 0, 1) := by decide +kernel
theorem dl_549 : decode code 549 = .ok (.ireturn, 1) := by decide +kernel
theorem dl_550 : decode code 550 = .ok (.aload_n 1, 1) := by decide +kernel
theorem dl_551 : decode code 551 = .ok (.invokevirtual 75, 3) := by decide +kernel
theorem dl_554 : decode code 554 = .ok (.aload_n 2, 1) := by decide +kernel
theorem dl_555 : decode code 555 = .ok (.invokevirtual 78, 3) := by decide +kernel
theorem dl_558 : decode code 558 = .ok (.if_icmp .eq 5, 3) := by decide +kernel
theorem dl_561 : decode code 561 = .ok (.iconst 0, 1) := by decide +kernel
theorem dl_562 : decode code 562 = .ok (.ireturn, 1) := by decide +kernel
theorem dl_563 : decode code 563 = .ok (.iinc 3 6, 3) := by decide +kernel
theorem dl_566 : decode code 566 = .ok (.goto (-548), 3) := by decide +kernel
theorem dl_569 : decode code 569 = .ok (.iconst 1, 1) := by decide +kernel
theorem dl_570 : decode code 570 = .ok (.ireturn, 1) := by decide +kernel
/-! the law: what its loop stands on -/
section LW
variable {p : Program} {l : Launch} {e : Env} {s : State} {m : MethodId} {below : List Frame} {meth : Method} {c : Code} {b L : Nat} {xs : Nat → Int32} {ad : Int → Nat} {D : va_G} {cy : Nat → ClassId} {Z : State → Prop} {cl sl : Nat}
abbrev l_A (s : State) : Nat → Prop := fun q => s.heap.size ≤ q
def l_W (p : Program) (l : Launch) (e : Env) (s : State) (m : MethodId) (below : List Frame) (meth : Method) (c : Code) (b : Nat) (ad : Int → Nat) (D : va_G) (cy : Nat → ClassId) (cl sl : Nat) (iv : Int) (pc : Nat) (st : List QV) (μ : QM) : Prop := ∀ (H : Heap) (locs : List Loc) (la : Array Slot), va_P D vwCl (q_ws q_T q_N ad cy μ) H → va_D (l_A s) (q_ws q_T q_N ad cy μ) → va_S (l_A s) s.heap H locs → lv_has la 4 [(0, .ref b), (1, .ref (ad 0)), (2, .ref (ad 85)), (3, .int (Int32.ofInt iv))] → W p l e room_1 s m #[Value.ref b] below meth c H locs cl sl (lw_Z below #[Value.ref b] s) (F0 m pc la (st.map (q_cv ad)))
/-- all that the loop stands on -/
def l_C (p : Program) (l : Launch) (s : State) (m : MethodId) (meth : Method) (c : Code) (b L : Nat) (xs : Nat → Int32) (ad : Int → Nat) (D : va_G) (cy : Nat → ClassId) (Z : State → Prop) : Prop := lw_At p s m meth c b L xs ∧ L ≤ 3072 ∧ va_K D vwCl (q_tys cy) s ∧ q_Zs ad Z ∧ Z s
theorem l_hts (C : l_C p l s m meth c b L xs ad D cy Z) : ∀ w ∈ q_tb, w.before #[Value.ref b] s = true := fun w h => C.1.2.2.2.2.2.1 w (List.mem_filter.mp h).1
theorem l_val (x : Int32) : Value.int x = q_cv ad (.inl x.toInt) := by
  show Value.int x = Value.int (Int32.ofInt x.toInt)
  rw [Int32.ofInt_toInt]
theorem l_rx (x : Int32) : q_r x.toInt := ⟨by have := Int32.le_toInt x; omega, by have := Int32.toInt_lt x; omega⟩
/-- a cell of the script -/
theorem l_ld (C : l_C p l s m meth c b L xs ad D cy Z) {H : Heap} {locs : List Loc} {la : Array Slot} {iv k : Int} {pc : Nat} {rest : List Value} (hS : va_S (l_A s) s.heap H locs) (hl : lv_has la 4 [(0, .ref b), (1, .ref (ad 0)), (2, .ref (ad 85)), (3, .int (Int32.ofInt iv))]) (d0 : decode code pc = .ok (.aload_n 0, 1)) (d1 : decode code (pc + 1) = .ok (.iload_n 3, 1)) (d2 : decode code (pc + 2) = .ok (.iconst k, 1)) (d3 : decode code (pc + 3) = .ok (.iadd, 1)) (d4 : decode code (pc + 4) = .ok (.iaload, 1)) (h0 : 0 ≤ iv) (h1 : 0 ≤ k) (h2 : iv + k < L)
    (K : W p l e room_1 s m #[Value.ref b] below meth c H locs cl sl (lw_Z below #[Value.ref b] s) (F0 m (pc + 5) la (q_cv ad (.inl (xs (iv + k).toNat).toInt) :: rest))) : W p l e room_1 s m #[Value.ref b] below meth c H locs cl sl (lw_Z below #[Value.ref b] s) (F0 m pc la rest) := by
  obtain ⟨⟨hx, hb, hr, hml, hown, hts, hX, hbl, hlk, hgv⟩, hL, hK, hZ, hz⟩ := C
  refine lv_aload_n hx hb d0 rfl (lv_at hl 0 rfl) ?_
  refine lv_iload_n hx hb d1 rfl (lv_at hl 3 rfl) ?_
  refine lv_iconst hx hb d2 rfl ?_
  refine lv_iadd hx hb d3 ?_
  rw [← Int32.ofInt_add]
  refine va_sld hx hb hX hbl (Nat.not_le.mpr hbl) hS (q_in (by omega) (by omega) h2) d4 ?_
  rw [q_cl (by omega) (by omega), l_val (ad := ad)]
  exact K
theorem l_a1 (C : l_C p l s m meth c b L xs ad D cy Z) {H : Heap} {locs : List Loc} {la : Array Slot} {iv : Int} {pc : Nat} {rest : List Value} (hl : lv_has la 4 [(0, .ref b), (1, .ref (ad 0)), (2, .ref (ad 85)), (3, .int (Int32.ofInt iv))]) (d0 : decode code pc = .ok (.aload_n 1, 1)) (K : W p l e room_1 s m #[Value.ref b] below meth c H locs cl sl (lw_Z below #[Value.ref b] s) (F0 m (pc + 1) la (q_cv ad (.inr (.inr 0)) :: rest))) : W p l e room_1 s m #[Value.ref b] below meth c H locs cl sl (lw_Z below #[Value.ref b] s) (F0 m pc la rest) := by
  rw [q_refv (by decide)] at K
  exact lv_aload_n C.1.1 C.1.2.1 d0 rfl (lv_at hl 1 rfl) K
theorem l_a2 (C : l_C p l s m meth c b L xs ad D cy Z) {H : Heap} {locs : List Loc} {la : Array Slot} {iv : Int} {pc : Nat} {rest : List Value} (hl : lv_has la 4 [(0, .ref b), (1, .ref (ad 0)), (2, .ref (ad 85)), (3, .int (Int32.ofInt iv))]) (d0 : decode code pc = .ok (.aload_n 2, 1)) (K : W p l e room_1 s m #[Value.ref b] below meth c H locs cl sl (lw_Z below #[Value.ref b] s) (F0 m (pc + 1) la (q_cv ad (.inr (.inr 85)) :: rest))) : W p l e room_1 s m #[Value.ref b] below meth c H locs cl sl (lw_Z below #[Value.ref b] s) (F0 m pc la rest) := by
  rw [q_refv (by decide)] at K
  exact lv_aload_n C.1.1 C.1.2.1 d0 rfl (lv_at hl 2 rfl) K
theorem l_wsA {μ : QM} {A : Nat → Prop} (h : va_D A (q_ws q_T q_N ad cy μ)) : va_D (q_A q_N ad) (q_ws q_T q_N ad cy μ) := ⟨h.1, fun k q hk => by
  unfold q_ws at hk
  rw [List.getElem?_map] at hk
  cases hn : q_N[k]? with
  | none => rw [hn] at hk; cases hk
  | some a =>
    rw [hn] at hk
    cases hk
    exact ⟨a, List.mem_of_getElem? hn, rfl⟩⟩
theorem l_sub {μ : QM} {A : Nat → Prop} (h : va_D A (q_ws q_T q_N ad cy μ)) : ∀ q, q_A q_N ad q → A q := fun q hq => by
  obtain ⟨a, ha, rfl⟩ := hq
  obtain ⟨k, hk⟩ := List.getElem?_of_mem ha
  exact h.2 k (ad a, q_ent ad cy μ a (q_T a)) (by unfold q_ws; rw [List.getElem?_map, hk]; rfl)
/-- a call of the law -/
theorem l_crV (C : l_C p l s m meth c b L xs ad D cy Z) {y : MethodName} {bytes : ByteArray} {maxL i n : Nat} {ret : Option FieldType} {rm : Room} {sp : QP} (hC : q_Ct l q_T q_N ad D cy Z y bytes maxL ret rm sp) (hrc : q_rcv q_T y.cls sp) (hm : Cond.code y bytes maxL ret ∈ q_tb) (h1 : Cond.methodLink R_law i y ∈ q_tb) (h2 : Cond.instanceMethod y ∈ q_tb) (h4 : Cond.selects y.cls y y ∈ q_tb) (h3 : Cond.initialized y.cls ∈ q_tb)
    (hd : y.cls ≠ "java/lang/invoke/MethodHandle" ∧ y.cls ≠ "java/lang/invoke/VarHandle" ∧ (parseMethodDescriptor y.desc).map (fun d => d.parameters.length) = some n) (hc : rm.cells = 0 ∧ rm.slots = 0) (hR : rm.frames + 1 ≤ 13 ∧ 8 + (maxL + 11) + rm.locals ≤ 478) (hcs : cl ≤ 600000 ∧ sl ≤ 7302250) {pc : Nat} {iv : Int} {st : List QV} {μ : QM} {K : Option QV → QM → Prop} (hdg : decode code pc = .ok (.invokevirtual i, 3)) (hlen : n + 1 ≤ st.length) (hcat : q_cats (st.drop (n + 1)) ≤ 8) (hsp : sp (st.take (n + 1)) μ K) (hk : ∀ o μ', K o μ' → l_W p l e s m below meth c b ad D cy cl sl iv (pc + 3) (o.toList ++ st.drop (n + 1)) μ') : l_W p l e s m below meth c b ad D cy cl sl iv pc st μ := by
  intro H locs la hP hD hS hl
  have hts := l_hts C
  obtain ⟨⟨hx, hb, hr, hml, hown, -, hX, hbl, hlk, hgv⟩, hL, hK, hZ, hz⟩ := C
  have F : q_Fix p s m #[Value.ref b] meth c q_T q_N D cy R_law code := ⟨hx, hb, hown, hts, hK, hlk, q_wokT.1, q_wokT.2.1, q_wokT.2.2⟩
  have hM := hC (st.take (n + 1)) μ K hsp
  obtain ⟨rA, b9, ci, ks, q, e1, e2, e3, e4⟩ := hrc _ _ _ hsp
  have cw := callB_of (R := room_1) (own := R_law) (index := i) (mc := 0) (ms := 0) n hts (q_goodW hm) rfl hc.1 hc.2 (hts _ h3) (hts _ h1) hd hR
  obtain ⟨h0, k9, -, hw9⟩ := q_cell (ad := ad) F e2
  have hrev : (st.take (n + 1)).reverse.map (q_cv ad) = .ref (ad b9) :: rA.reverse.map (q_cv ad) := by rw [e1, List.reverse_append, List.reverse_singleton, List.singleton_append, List.map_cons, q_refv h0]
  have hlA : rA.length = n := by
    have := congrArg List.length e1
    rw [List.length_take, List.length_append, List.length_singleton] at this
    omega
  have hp : PreV s H y.cls (ad b9) (q_Pc q_T q_N ad D cy Z (st.take (n + 1)) μ) (rA.reverse.map (q_cv ad)) := ⟨q_blind hZ.1.1, by rw [← e4]; exact va_recv hK hP e3 (hw9 μ), fun U hU hW => by
    rw [← hrev]
    exact ⟨rfl, by rw [hU]; exact hP, va_K.moved hW.alike hK, l_wsA hD, hZ.1.1.1 s U hz hW (by rw [hU]; exact hS.1) (fun q h1 h2 => by rw [hU]; exact hS.2.1 q h1 (Nat.not_le.mpr h1))⟩⟩
  have hrun := va_runV (l := l) (e := e) (R := room_1) (below := below) (meth := meth) (H := H) (locs := locs) (cells := cl) (slots := sl) (g := F0 m pc la (st.map (q_cv ad))) (rest := (st.drop (n + 1)).map (q_cv ad)) ⟨hx, hb, hml, hown, hts⟩ hM ⟨cw, hts _ h2, hts _ h4⟩ hp rfl (by rw [List.length_map, List.length_reverse]; exact hlA) hl.1 (by
    show st.map (q_cv ad) = _
    rw [q_split (n := n + 1), e1, ← List.map_reverse, List.reverse_reverse, List.map_append, List.map_singleton, q_refv h0, List.append_assoc]
    rfl) (q_roomS hcat) hdg hcs
  intro U hU X
  obtain ⟨v, st₀, t, T', L', g0, X', hL', g1, g2, ⟨⟨o, μ', hv, hKo, hP'⟩, hz9, hkp⟩, stp⟩ := hrun U hU X
  have hv : v = o.map (q_cv ad) := Outcome.returned.inj hv
  subst hv
  rw [g0] at hz9 hkp
  have hS' : va_S (l_A s) s.heap T'.heap (locs ++ L') := ⟨Nat.le_trans hS.1 (by rw [g1]; exact hz9), fun q h1 h2 => by rw [g1, hkp q (Nat.lt_of_lt_of_le h1 hS.1) (fun z => h2 (l_sub hD q z))]; exact hS.2.1 q h1 h2, fun q hq => by
    rcases List.mem_append.mp hq with h | h
    · exact hS.2.2 q h
    · exact l_sub hD _ (hL' q h)⟩
  obtain ⟨t2, a1, b1⟩ := hk o μ' hKo T'.heap (locs ++ L') la (by rw [g1]; exact hP') (q_wsD hD) hS' hl T' rfl X'
  refine ⟨t2, stp t2 ?_, b1⟩
  have e9 : (o.toList ++ st.drop (n + 1)).map (q_cv ad) = (o.map (q_cv ad)).toList ++ (st.drop (n + 1)).map (q_cv ad) := by cases o <;> rfl
  rw [e9] at a1
  exact a1
end LW

