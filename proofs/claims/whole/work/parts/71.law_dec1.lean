theorem d_l_0 : decode code 0 = .ok (.new 7, 3) := by decide +kernel
theorem d_l_3 : decode code 3 = .ok (.dup, 1) := by decide +kernel
theorem d_l_4 : decode code 4 = .ok (.invokespecial 9, 3) := by decide +kernel
theorem d_l_7 : decode code 7 = .ok (.astore_n 1, 1) := by decide +kernel
theorem d_l_8 : decode code 8 = .ok (.new 10, 3) := by decide +kernel
theorem d_l_11 : decode code 11 = .ok (.dup, 1) := by decide +kernel
theorem d_l_12 : decode code 12 = .ok (.invokespecial 12, 3) := by decide +kernel
theorem d_l_15 : decode code 15 = .ok (.astore_n 2, 1) := by decide +kernel
theorem d_l_16 : decode code 16 = .ok (.iconst 0, 1) := by decide +kernel
theorem d_l_17 : decode code 17 = .ok (.istore_n 3, 1) := by decide +kernel
theorem d_l_18 : decode code 18 = .ok (.iload_n 3, 1) := by decide +kernel
theorem d_l_19 : decode code 19 = .ok (.aload_n 0, 1) := by decide +kernel
theorem d_l_20 : decode code 20 = .ok (.arraylength, 1) := by decide +kernel
theorem d_l_21 : decode code 21 = .ok (.bipush 6, 2) := by decide +kernel
theorem d_l_23 : decode code 23 = .ok (.isub, 1) := by decide +kernel
theorem d_l_24 : decode code 24 = .ok (.if_icmp .gt 760, 3) := by decide +kernel
theorem d_l_27 : decode code 27 = .ok (.aload_n 0, 1) := by decide +kernel
theorem d_l_28 : decode code 28 = .ok (.iload_n 3, 1) := by decide +kernel
theorem d_l_29 : decode code 29 = .ok (.iaload, 1) := by decide +kernel
theorem d_l_30 : decode code 30 = .ok (.bipush 31, 2) := by decide +kernel
theorem d_l_32 : decode code 32 = .ok (.iand, 1) := by decide +kernel
theorem d_l_33 : decode code 33 = .ok (.tableswitch 745 0 19 #[95, 148, 201, 254, 287, 330, 393, 416, 439, 462, 485, 518, 581, 604, 627, 640, 653, 686, 709, 732], 95) := by decide +kernel
theorem d_l_128 : decode code 128 = .ok (.aload_n 1, 1) := by decide +kernel
theorem d_l_129 : decode code 129 = .ok (.aload_n 0, 1) := by decide +kernel
theorem d_l_130 : decode code 130 = .ok (.iload_n 3, 1) := by decide +kernel
theorem d_l_131 : decode code 131 = .ok (.iconst 1, 1) := by decide +kernel
theorem d_l_132 : decode code 132 = .ok (.iadd, 1) := by decide +kernel
theorem d_l_133 : decode code 133 = .ok (.iaload, 1) := by decide +kernel
theorem d_l_134 : decode code 134 = .ok (.aload_n 0, 1) := by decide +kernel
theorem d_l_135 : decode code 135 = .ok (.iload_n 3, 1) := by decide +kernel
theorem d_l_136 : decode code 136 = .ok (.iconst 2, 1) := by decide +kernel
theorem d_l_137 : decode code 137 = .ok (.iadd, 1) := by decide +kernel
theorem d_l_138 : decode code 138 = .ok (.iaload, 1) := by decide +kernel
theorem d_l_139 : decode code 139 = .ok (.aload_n 0, 1) := by decide +kernel
theorem d_l_140 : decode code 140 = .ok (.iload_n 3, 1) := by decide +kernel
theorem d_l_141 : decode code 141 = .ok (.iconst 3, 1) := by decide +kernel
theorem d_l_142 : decode code 142 = .ok (.iadd, 1) := by decide +kernel
theorem d_l_143 : decode code 143 = .ok (.iaload, 1) := by decide +kernel
theorem d_l_144 : decode code 144 = .ok (.aload_n 0, 1) := by decide +kernel
theorem d_l_145 : decode code 145 = .ok (.iload_n 3, 1) := by decide +kernel
theorem d_l_146 : decode code 146 = .ok (.iconst 4, 1) := by decide +kernel
theorem d_l_147 : decode code 147 = .ok (.iadd, 1) := by decide +kernel
theorem d_l_148 : decode code 148 = .ok (.iaload, 1) := by decide +kernel
theorem d_l_149 : decode code 149 = .ok (.invokevirtual 13, 3) := by decide +kernel
theorem d_l_152 : decode code 152 = .ok (.aload_n 2, 1) := by decide +kernel
theorem d_l_153 : decode code 153 = .ok (.aload_n 0, 1) := by decide +kernel
theorem d_l_154 : decode code 154 = .ok (.iload_n 3, 1) := by decide +kernel
theorem d_l_155 : decode code 155 = .ok (.iconst 1, 1) := by decide +kernel
theorem d_l_156 : decode code 156 = .ok (.iadd, 1) := by decide +kernel
theorem d_l_157 : decode code 157 = .ok (.iaload, 1) := by decide +kernel
theorem d_l_158 : decode code 158 = .ok (.aload_n 0, 1) := by decide +kernel
theorem d_l_159 : decode code 159 = .ok (.iload_n 3, 1) := by decide +kernel
theorem d_l_160 : decode code 160 = .ok (.iconst 2, 1) := by decide +kernel
theorem d_l_161 : decode code 161 = .ok (.iadd, 1) := by decide +kernel
theorem d_l_162 : decode code 162 = .ok (.iaload, 1) := by decide +kernel
theorem d_l_163 : decode code 163 = .ok (.aload_n 0, 1) := by decide +kernel
theorem d_l_164 : decode code 164 = .ok (.iload_n 3, 1) := by decide +kernel
theorem d_l_165 : decode code 165 = .ok (.iconst 3, 1) := by decide +kernel
theorem d_l_166 : decode code 166 = .ok (.iadd, 1) := by decide +kernel
theorem d_l_167 : decode code 167 = .ok (.iaload, 1) := by decide +kernel
theorem d_l_168 : decode code 168 = .ok (.aload_n 0, 1) := by decide +kernel
theorem d_l_169 : decode code 169 = .ok (.iload_n 3, 1) := by decide +kernel
theorem d_l_170 : decode code 170 = .ok (.iconst 4, 1) := by decide +kernel
theorem d_l_171 : decode code 171 = .ok (.iadd, 1) := by decide +kernel
theorem d_l_172 : decode code 172 = .ok (.iaload, 1) := by decide +kernel
theorem d_l_173 : decode code 173 = .ok (.invokevirtual 17, 3) := by decide +kernel
theorem d_l_176 : decode code 176 = .ok (.if_icmp .eq 602, 3) := by decide +kernel
theorem d_l_179 : decode code 179 = .ok (.iconst 0, 1) := by decide +kernel
theorem d_l_180 : decode code 180 = .ok (.ireturn, 1) := by decide +kernel
theorem d_l_181 : decode code 181 = .ok (.aload_n 1, 1) := by decide +kernel
theorem d_l_182 : decode code 182 = .ok (.aload_n 0, 1) := by decide +kernel
theorem d_l_183 : decode code 183 = .ok (.iload_n 3, 1) := by decide +kernel
theorem d_l_184 : decode code 184 = .ok (.iconst 1, 1) := by decide +kernel
theorem d_l_185 : decode code 185 = .ok (.iadd, 1) := by decide +kernel
theorem d_l_186 : decode code 186 = .ok (.iaload, 1) := by decide +kernel
theorem d_l_187 : decode code 187 = .ok (.aload_n 0, 1) := by decide +kernel
theorem d_l_188 : decode code 188 = .ok (.iload_n 3, 1) := by decide +kernel
theorem d_l_189 : decode code 189 = .ok (.iconst 2, 1) := by decide +kernel
theorem d_l_190 : decode code 190 = .ok (.iadd, 1) := by decide +kernel
theorem d_l_191 : decode code 191 = .ok (.iaload, 1) := by decide +kernel
theorem d_l_192 : decode code 192 = .ok (.aload_n 0, 1) := by decide +kernel
theorem d_l_193 : decode code 193 = .ok (.iload_n 3, 1) := by decide +kernel
theorem d_l_194 : decode code 194 = .ok (.iconst 3, 1) := by decide +kernel
theorem d_l_195 : decode code 195 = .ok (.iadd, 1) := by decide +kernel
theorem d_l_196 : decode code 196 = .ok (.iaload, 1) := by decide +kernel
theorem d_l_197 : decode code 197 = .ok (.aload_n 0, 1) := by decide +kernel
theorem d_l_198 : decode code 198 = .ok (.iload_n 3, 1) := by decide +kernel
theorem d_l_199 : decode code 199 = .ok (.iconst 4, 1) := by decide +kernel
theorem d_l_200 : decode code 200 = .ok (.iadd, 1) := by decide +kernel
theorem d_l_201 : decode code 201 = .ok (.iaload, 1) := by decide +kernel
theorem d_l_202 : decode code 202 = .ok (.invokevirtual 18, 3) := by decide +kernel
theorem d_l_205 : decode code 205 = .ok (.aload_n 2, 1) := by decide +kernel
theorem d_l_206 : decode code 206 = .ok (.aload_n 0, 1) := by decide +kernel
theorem d_l_207 : decode code 207 = .ok (.iload_n 3, 1) := by decide +kernel
theorem d_l_208 : decode code 208 = .ok (.iconst 1, 1) := by decide +kernel
theorem d_l_209 : decode code 209 = .ok (.iadd, 1) := by decide +kernel
theorem d_l_210 : decode code 210 = .ok (.iaload, 1) := by decide +kernel
theorem d_l_211 : decode code 211 = .ok (.aload_n 0, 1) := by decide +kernel
theorem d_l_212 : decode code 212 = .ok (.iload_n 3, 1) := by decide +kernel
theorem d_l_213 : decode code 213 = .ok (.iconst 2, 1) := by decide +kernel
theorem d_l_214 : decode code 214 = .ok (.iadd, 1) := by decide +kernel
theorem d_l_215 : decode code 215 = .ok (.iaload, 1) := by decide +kernel
theorem d_l_216 : decode code 216 = .ok (.aload_n 0, 1) := by decide +kernel
theorem d_l_217 : decode code 217 = .ok (.iload_n 3, 1) := by decide +kernel
theorem d_l_218 : decode code 218 = .ok (.iconst 3, 1) := by decide +kernel
theorem d_l_219 : decode code 219 = .ok (.iadd, 1) := by decide +kernel
theorem d_l_220 : decode code 220 = .ok (.iaload, 1) := by decide +kernel
theorem d_l_221 : decode code 221 = .ok (.aload_n 0, 1) := by decide +kernel
theorem d_l_222 : decode code 222 = .ok (.iload_n 3, 1) := by decide +kernel
theorem d_l_223 : decode code 223 = .ok (.iconst 4, 1) := by decide +kernel
theorem d_l_224 : decode code 224 = .ok (.iadd, 1) := by decide +kernel
theorem d_l_225 : decode code 225 = .ok (.iaload, 1) := by decide +kernel
theorem d_l_226 : decode code 226 = .ok (.invokevirtual 21, 3) := by decide +kernel
theorem d_l_229 : decode code 229 = .ok (.if_icmp .eq 549, 3) := by decide +kernel
theorem d_l_232 : decode code 232 = .ok (.iconst 0, 1) := by decide +kernel
theorem d_l_233 : decode code 233 = .ok (.ireturn, 1) := by decide +kernel
theorem d_l_234 : decode code 234 = .ok (.aload_n 1, 1) := by decide +kernel
theorem d_l_235 : decode code 235 = .ok (.aload_n 0, 1) := by decide +kernel
theorem d_l_236 : decode code 236 = .ok (.iload_n 3, 1) := by decide +kernel
theorem d_l_237 : decode code 237 = .ok (.iconst 1, 1) := by decide +kernel
theorem d_l_238 : decode code 238 = .ok (.iadd, 1) := by decide +kernel
theorem d_l_239 : decode code 239 = .ok (.iaload, 1) := by decide +kernel
theorem d_l_240 : decode code 240 = .ok (.aload_n 0, 1) := by decide +kernel
theorem d_l_241 : decode code 241 = .ok (.iload_n 3, 1) := by decide +kernel
theorem d_l_242 : decode code 242 = .ok (.iconst 2, 1) := by decide +kernel
theorem d_l_243 : decode code 243 = .ok (.iadd, 1) := by decide +kernel
theorem d_l_244 : decode code 244 = .ok (.iaload, 1) := by decide +kernel
theorem d_l_245 : decode code 245 = .ok (.aload_n 0, 1) := by decide +kernel
theorem d_l_246 : decode code 246 = .ok (.iload_n 3, 1) := by decide +kernel
theorem d_l_247 : decode code 247 = .ok (.iconst 3, 1) := by decide +kernel
theorem d_l_248 : decode code 248 = .ok (.iadd, 1) := by decide +kernel
theorem d_l_249 : decode code 249 = .ok (.iaload, 1) := by decide +kernel
theorem d_l_250 : decode code 250 = .ok (.aload_n 0, 1) := by decide +kernel
theorem d_l_251 : decode code 251 = .ok (.iload_n 3, 1) := by decide +kernel
theorem d_l_252 : decode code 252 = .ok (.iconst 4, 1) := by decide +kernel
theorem d_l_253 : decode code 253 = .ok (.iadd, 1) := by decide +kernel
theorem d_l_254 : decode code 254 = .ok (.iaload, 1) := by decide +kernel
theorem d_l_255 : decode code 255 = .ok (.invokevirtual 22, 3) := by decide +kernel
theorem d_l_258 : decode code 258 = .ok (.aload_n 2, 1) := by decide +kernel
theorem d_l_259 : decode code 259 = .ok (.aload_n 0, 1) := by decide +kernel
theorem d_l_260 : decode code 260 = .ok (.iload_n 3, 1) := by decide +kernel
theorem d_l_261 : decode code 261 = .ok (.iconst 1, 1) := by decide +kernel
theorem d_l_262 : decode code 262 = .ok (.iadd, 1) := by decide +kernel
theorem d_l_263 : decode code 263 = .ok (.iaload, 1) := by decide +kernel
theorem d_l_264 : decode code 264 = .ok (.aload_n 0, 1) := by decide +kernel
theorem d_l_265 : decode code 265 = .ok (.iload_n 3, 1) := by decide +kernel
theorem d_l_266 : decode code 266 = .ok (.iconst 2, 1) := by decide +kernel
theorem d_l_267 : decode code 267 = .ok (.iadd, 1) := by decide +kernel
theorem d_l_268 : decode code 268 = .ok (.iaload, 1) := by decide +kernel
theorem d_l_269 : decode code 269 = .ok (.aload_n 0, 1) := by decide +kernel
theorem d_l_270 : decode code 270 = .ok (.iload_n 3, 1) := by decide +kernel
theorem d_l_271 : decode code 271 = .ok (.iconst 3, 1) := by decide +kernel
theorem d_l_272 : decode code 272 = .ok (.iadd, 1) := by decide +kernel
theorem d_l_273 : decode code 273 = .ok (.iaload, 1) := by decide +kernel
theorem d_l_274 : decode code 274 = .ok (.aload_n 0, 1) := by decide +kernel
theorem d_l_275 : decode code 275 = .ok (.iload_n 3, 1) := by decide +kernel
theorem d_l_276 : decode code 276 = .ok (.iconst 4, 1) := by decide +kernel
theorem d_l_277 : decode code 277 = .ok (.iadd, 1) := by decide +kernel
theorem d_l_278 : decode code 278 = .ok (.iaload, 1) := by decide +kernel
theorem d_l_279 : decode code 279 = .ok (.invokevirtual 26, 3) := by decide +kernel
theorem d_l_282 : decode code 282 = .ok (.if_icmp .eq 496, 3) := by decide +kernel
theorem d_l_285 : decode code 285 = .ok (.iconst 0, 1) := by decide +kernel
theorem d_l_286 : decode code 286 = .ok (.ireturn, 1) := by decide +kernel
theorem d_l_287 : decode code 287 = .ok (.aload_n 1, 1) := by decide +kernel
theorem d_l_288 : decode code 288 = .ok (.aload_n 0, 1) := by decide +kernel
theorem d_l_289 : decode code 289 = .ok (.iload_n 3, 1) := by decide +kernel
theorem d_l_290 : decode code 290 = .ok (.iconst 1, 1) := by decide +kernel
theorem d_l_291 : decode code 291 = .ok (.iadd, 1) := by decide +kernel
theorem d_l_292 : decode code 292 = .ok (.iaload, 1) := by decide +kernel
theorem d_l_293 : decode code 293 = .ok (.aload_n 0, 1) := by decide +kernel
theorem d_l_294 : decode code 294 = .ok (.iload_n 3, 1) := by decide +kernel
theorem d_l_295 : decode code 295 = .ok (.iconst 2, 1) := by decide +kernel
theorem d_l_296 : decode code 296 = .ok (.iadd, 1) := by decide +kernel
theorem d_l_297 : decode code 297 = .ok (.iaload, 1) := by decide +kernel
theorem d_l_298 : decode code 298 = .ok (.invokevirtual 27, 3) := by decide +kernel
theorem d_l_301 : decode code 301 = .ok (.aload_n 2, 1) := by decide +kernel
theorem d_l_302 : decode code 302 = .ok (.aload_n 0, 1) := by decide +kernel
theorem d_l_303 : decode code 303 = .ok (.iload_n 3, 1) := by decide +kernel
theorem d_l_304 : decode code 304 = .ok (.iconst 1, 1) := by decide +kernel
theorem d_l_305 : decode code 305 = .ok (.iadd, 1) := by decide +kernel
theorem d_l_306 : decode code 306 = .ok (.iaload, 1) := by decide +kernel
theorem d_l_307 : decode code 307 = .ok (.aload_n 0, 1) := by decide +kernel
theorem d_l_308 : decode code 308 = .ok (.iload_n 3, 1) := by decide +kernel
theorem d_l_309 : decode code 309 = .ok (.iconst 2, 1) := by decide +kernel
theorem d_l_310 : decode code 310 = .ok (.iadd, 1) := by decide +kernel
theorem d_l_311 : decode code 311 = .ok (.iaload, 1) := by decide +kernel
theorem d_l_312 : decode code 312 = .ok (.invokevirtual 31, 3) := by decide +kernel
theorem d_l_315 : decode code 315 = .ok (.if_icmp .eq 463, 3) := by decide +kernel
theorem d_l_318 : decode code 318 = .ok (.iconst 0, 1) := by decide +kernel
theorem d_l_319 : decode code 319 = .ok (.ireturn, 1) := by decide +kernel
theorem d_l_320 : decode code 320 = .ok (.aload_n 1, 1) := by decide +kernel
theorem d_l_321 : decode code 321 = .ok (.aload_n 0, 1) := by decide +kernel
theorem d_l_322 : decode code 322 = .ok (.iload_n 3, 1) := by decide +kernel
theorem d_l_323 : decode code 323 = .ok (.iconst 1, 1) := by decide +kernel
theorem d_l_324 : decode code 324 = .ok (.iadd, 1) := by decide +kernel
theorem d_l_325 : decode code 325 = .ok (.iaload, 1) := by decide +kernel
theorem d_l_326 : decode code 326 = .ok (.aload_n 0, 1) := by decide +kernel
theorem d_l_327 : decode code 327 = .ok (.iload_n 3, 1) := by decide +kernel
theorem d_l_328 : decode code 328 = .ok (.iconst 2, 1) := by decide +kernel
theorem d_l_329 : decode code 329 = .ok (.iadd, 1) := by decide +kernel
theorem d_l_330 : decode code 330 = .ok (.iaload, 1) := by decide +kernel
theorem d_l_331 : decode code 331 = .ok (.aload_n 0, 1) := by decide +kernel
theorem d_l_332 : decode code 332 = .ok (.iload_n 3, 1) := by decide +kernel
theorem d_l_333 : decode code 333 = .ok (.iconst 3, 1) := by decide +kernel
theorem d_l_334 : decode code 334 = .ok (.iadd, 1) := by decide +kernel
theorem d_l_335 : decode code 335 = .ok (.iaload, 1) := by decide +kernel
theorem d_l_336 : decode code 336 = .ok (.invokevirtual 32, 3) := by decide +kernel
theorem d_l_339 : decode code 339 = .ok (.aload_n 2, 1) := by decide +kernel
theorem d_l_340 : decode code 340 = .ok (.aload_n 0, 1) := by decide +kernel
theorem d_l_341 : decode code 341 = .ok (.iload_n 3, 1) := by decide +kernel
theorem d_l_342 : decode code 342 = .ok (.iconst 1, 1) := by decide +kernel
theorem d_l_343 : decode code 343 = .ok (.iadd, 1) := by decide +kernel
theorem d_l_344 : decode code 344 = .ok (.iaload, 1) := by decide +kernel
theorem d_l_345 : decode code 345 = .ok (.aload_n 0, 1) := by decide +kernel
theorem d_l_346 : decode code 346 = .ok (.iload_n 3, 1) := by decide +kernel
theorem d_l_347 : decode code 347 = .ok (.iconst 2, 1) := by decide +kernel
theorem d_l_348 : decode code 348 = .ok (.iadd, 1) := by decide +kernel
theorem d_l_349 : decode code 349 = .ok (.iaload, 1) := by decide +kernel
theorem d_l_350 : decode code 350 = .ok (.aload_n 0, 1) := by decide +kernel
theorem d_l_351 : decode code 351 = .ok (.iload_n 3, 1) := by decide +kernel
theorem d_l_352 : decode code 352 = .ok (.iconst 3, 1) := by decide +kernel
theorem d_l_353 : decode code 353 = .ok (.iadd, 1) := by decide +kernel
theorem d_l_354 : decode code 354 = .ok (.iaload, 1) := by decide +kernel
theorem d_l_355 : decode code 355 = .ok (.invokevirtual 36, 3) := by decide +kernel
theorem d_l_358 : decode code 358 = .ok (.if_icmp .eq 420, 3) := by decide +kernel
theorem d_l_361 : decode code 361 = .ok (.iconst 0, 1) := by decide +kernel
theorem d_l_362 : decode code 362 = .ok (.ireturn, 1) := by decide +kernel
theorem d_l_363 : decode code 363 = .ok (.aload_n 1, 1) := by decide +kernel
theorem d_l_364 : decode code 364 = .ok (.aload_n 0, 1) := by decide +kernel
theorem d_l_365 : decode code 365 = .ok (.iload_n 3, 1) := by decide +kernel
theorem d_l_366 : decode code 366 = .ok (.iconst 1, 1) := by decide +kernel
theorem d_l_367 : decode code 367 = .ok (.iadd, 1) := by decide +kernel
theorem d_l_368 : decode code 368 = .ok (.iaload, 1) := by decide +kernel
theorem d_l_369 : decode code 369 = .ok (.aload_n 0, 1) := by decide +kernel
theorem d_l_370 : decode code 370 = .ok (.iload_n 3, 1) := by decide +kernel
theorem d_l_371 : decode code 371 = .ok (.iconst 2, 1) := by decide +kernel
theorem d_l_372 : decode code 372 = .ok (.iadd, 1) := by decide +kernel
theorem d_l_373 : decode code 373 = .ok (.iaload, 1) := by decide +kernel
theorem d_l_374 : decode code 374 = .ok (.aload_n 0, 1) := by decide +kernel
theorem d_l_375 : decode code 375 = .ok (.iload_n 3, 1) := by decide +kernel
theorem d_l_376 : decode code 376 = .ok (.iconst 3, 1) := by decide +kernel
theorem d_l_377 : decode code 377 = .ok (.iadd, 1) := by decide +kernel
theorem d_l_378 : decode code 378 = .ok (.iaload, 1) := by decide +kernel
theorem d_l_379 : decode code 379 = .ok (.aload_n 0, 1) := by decide +kernel
theorem d_l_380 : decode code 380 = .ok (.iload_n 3, 1) := by decide +kernel
theorem d_l_381 : decode code 381 = .ok (.iconst 4, 1) := by decide +kernel
theorem d_l_382 : decode code 382 = .ok (.iadd, 1) := by decide +kernel
theorem d_l_383 : decode code 383 = .ok (.iaload, 1) := by decide +kernel
theorem d_l_384 : decode code 384 = .ok (.aload_n 0, 1) := by decide +kernel
theorem d_l_385 : decode code 385 = .ok (.iload_n 3, 1) := by decide +kernel
theorem d_l_386 : decode code 386 = .ok (.iconst 5, 1) := by decide +kernel
theorem d_l_387 : decode code 387 = .ok (.iadd, 1) := by decide +kernel
theorem d_l_388 : decode code 388 = .ok (.iaload, 1) := by decide +kernel
theorem d_l_389 : decode code 389 = .ok (.invokevirtual 37, 3) := by decide +kernel
theorem d_l_392 : decode code 392 = .ok (.aload_n 2, 1) := by decide +kernel
theorem d_l_393 : decode code 393 = .ok (.aload_n 0, 1) := by decide +kernel
theorem d_l_394 : decode code 394 = .ok (.iload_n 3, 1) := by decide +kernel
theorem d_l_395 : decode code 395 = .ok (.iconst 1, 1) := by decide +kernel
theorem d_l_396 : decode code 396 = .ok (.iadd, 1) := by decide +kernel
theorem d_l_397 : decode code 397 = .ok (.iaload, 1) := by decide +kernel
theorem d_l_398 : decode code 398 = .ok (.aload_n 0, 1) := by decide +kernel
theorem d_l_399 : decode code 399 = .ok (.iload_n 3, 1) := by decide +kernel
theorem d_l_400 : decode code 400 = .ok (.iconst 2, 1) := by decide +kernel
theorem d_l_401 : decode code 401 = .ok (.iadd, 1) := by decide +kernel
theorem d_l_402 : decode code 402 = .ok (.iaload, 1) := by decide +kernel
theorem d_l_403 : decode code 403 = .ok (.aload_n 0, 1) := by decide +kernel
theorem d_l_404 : decode code 404 = .ok (.iload_n 3, 1) := by decide +kernel
theorem d_l_405 : decode code 405 = .ok (.iconst 3, 1) := by decide +kernel
theorem d_l_406 : decode code 406 = .ok (.iadd, 1) := by decide +kernel
theorem d_l_407 : decode code 407 = .ok (.iaload, 1) := by decide +kernel
theorem d_l_408 : decode code 408 = .ok (.aload_n 0, 1) := by decide +kernel
theorem d_l_409 : decode code 409 = .ok (.iload_n 3, 1) := by decide +kernel
theorem d_l_410 : decode code 410 = .ok (.iconst 4, 1) := by decide +kernel
theorem d_l_411 : decode code 411 = .ok (.iadd, 1) := by decide +kernel
theorem d_l_412 : decode code 412 = .ok (.iaload, 1) := by decide +kernel
theorem d_l_413 : decode code 413 = .ok (.aload_n 0, 1) := by decide +kernel
theorem d_l_414 : decode code 414 = .ok (.iload_n 3, 1) := by decide +kernel
theorem d_l_415 : decode code 415 = .ok (.iconst 5, 1) := by decide +kernel
