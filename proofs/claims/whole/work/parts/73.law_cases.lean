section LAWC
variable {p : Program} {l : Launch} {e : Env} {s : State} {m : MethodId} {below : List Frame} {meth : Method} {c : Code} {b L : Nat} {xs : Nat → Int32} {Y : Lay} {S : St} {pc : Nat} {Lo st : List Value}
set_option maxHeartbeats 1000000 in
theorem l_c0 (X : LX Y p s m meth c b L xs) {i : Nat} (hi : i + 6 ≤ L) (hI : Inv S) (hk : ∀ S2, Inv S2 → Lp Y p l e s m below meth c b 778 (Lc Y b i) [] S2) : Lp Y p l e s m below meth c b 128 (Lc Y b i) [] S := by
  refine l_al1 X d_l_128 ?_
  refine l_ld X 1 hi (by decide) (by decide) d_l_129 d_l_130 d_l_131 d_l_132 d_l_133 ?_
  refine l_ld X 2 hi (by decide) (by decide) d_l_134 d_l_135 d_l_136 d_l_137 d_l_138 ?_
  refine l_ld X 3 hi (by decide) (by decide) d_l_139 d_l_140 d_l_141 d_l_142 d_l_143 ?_
  refine l_ld X 4 hi (by decide) (by decide) d_l_144 d_l_145 d_l_146 d_l_147 d_l_148 ?_
  refine l_call X (b0 := 0) [.int (xs (i + 1)), .int (xs (i + 2)), .int (xs (i + 3)), .int (xs (i + 4))] [] (st_turn hI (xs (i + 1)) (xs (i + 2)) (xs (i + 3)) (xs (i + 4))) d_l_149 LK_l_13 MF_q_turn MV_q_turn NP_q_turn ⟨by decide, by decide⟩ rfl rfl (by decide) (by decide) (ci := 0) rfl rfl rfl ?_
  rintro _ S1 ⟨v, rfl, hE⟩
  refine l_al2 X d_l_152 ?_
  refine l_ld X 1 hi (by decide) (by decide) d_l_153 d_l_154 d_l_155 d_l_156 d_l_157 ?_
  refine l_ld X 2 hi (by decide) (by decide) d_l_158 d_l_159 d_l_160 d_l_161 d_l_162 ?_
  refine l_ld X 3 hi (by decide) (by decide) d_l_163 d_l_164 d_l_165 d_l_166 d_l_167 ?_
  refine l_ld X 4 hi (by decide) (by decide) d_l_168 d_l_169 d_l_170 d_l_171 d_l_172 ?_
  refine l_call X (b0 := 8) [.int (xs (i + 1)), .int (xs (i + 2)), .int (xs (i + 3)), .int (xs (i + 4))] [.int v] hE d_l_173 LK_l_17 MF_m_turn MV_m_turn NP_m_turn ⟨by decide, by decide⟩ rfl rfl (by show 1 ≤ 8; decide) (by decide) (ci := 8) rfl rfl rfl ?_
  rintro _ S2 ⟨rfl, hI2⟩
  exact l_eq X d_l_176 (by decide) (hk S2 hI2)
set_option maxHeartbeats 1000000 in
theorem l_c1 (X : LX Y p s m meth c b L xs) {i : Nat} (hi : i + 6 ≤ L) (hI : Inv S) (hk : ∀ S2, Inv S2 → Lp Y p l e s m below meth c b 778 (Lc Y b i) [] S2) : Lp Y p l e s m below meth c b 181 (Lc Y b i) [] S := by
  refine l_al1 X d_l_181 ?_
  refine l_ld X 1 hi (by decide) (by decide) d_l_182 d_l_183 d_l_184 d_l_185 d_l_186 ?_
  refine l_ld X 2 hi (by decide) (by decide) d_l_187 d_l_188 d_l_189 d_l_190 d_l_191 ?_
  refine l_ld X 3 hi (by decide) (by decide) d_l_192 d_l_193 d_l_194 d_l_195 d_l_196 ?_
  refine l_ld X 4 hi (by decide) (by decide) d_l_197 d_l_198 d_l_199 d_l_200 d_l_201 ?_
  refine l_call X (b0 := 0) [.int (xs (i + 1)), .int (xs (i + 2)), .int (xs (i + 3)), .int (xs (i + 4))] [] (st_sample hI (xs (i + 1)) (xs (i + 2)) (xs (i + 3)) (xs (i + 4))) d_l_202 LK_l_18 MF_q_sample MV_q_sample NP_q_sample ⟨by decide, by decide⟩ rfl rfl (by decide) (by decide) (ci := 0) rfl rfl rfl ?_
  rintro _ S1 ⟨v, rfl, hE⟩
  refine l_al2 X d_l_205 ?_
  refine l_ld X 1 hi (by decide) (by decide) d_l_206 d_l_207 d_l_208 d_l_209 d_l_210 ?_
  refine l_ld X 2 hi (by decide) (by decide) d_l_211 d_l_212 d_l_213 d_l_214 d_l_215 ?_
  refine l_ld X 3 hi (by decide) (by decide) d_l_216 d_l_217 d_l_218 d_l_219 d_l_220 ?_
  refine l_ld X 4 hi (by decide) (by decide) d_l_221 d_l_222 d_l_223 d_l_224 d_l_225 ?_
  refine l_call X (b0 := 8) [.int (xs (i + 1)), .int (xs (i + 2)), .int (xs (i + 3)), .int (xs (i + 4))] [.int v] hE d_l_226 LK_l_21 MF_m_sample MV_m_sample NP_m_sample ⟨by decide, by decide⟩ rfl rfl (by show 1 ≤ 8; decide) (by decide) (ci := 8) rfl rfl rfl ?_
  rintro _ S2 ⟨rfl, hI2⟩
  exact l_eq X d_l_229 (by decide) (hk S2 hI2)
set_option maxHeartbeats 1000000 in
theorem l_c2 (X : LX Y p s m meth c b L xs) {i : Nat} (hi : i + 6 ≤ L) (hI : Inv S) (hk : ∀ S2, Inv S2 → Lp Y p l e s m below meth c b 778 (Lc Y b i) [] S2) : Lp Y p l e s m below meth c b 234 (Lc Y b i) [] S := by
  refine l_al1 X d_l_234 ?_
  refine l_ld X 1 hi (by decide) (by decide) d_l_235 d_l_236 d_l_237 d_l_238 d_l_239 ?_
  refine l_ld X 2 hi (by decide) (by decide) d_l_240 d_l_241 d_l_242 d_l_243 d_l_244 ?_
  refine l_ld X 3 hi (by decide) (by decide) d_l_245 d_l_246 d_l_247 d_l_248 d_l_249 ?_
  refine l_ld X 4 hi (by decide) (by decide) d_l_250 d_l_251 d_l_252 d_l_253 d_l_254 ?_
  refine l_call X (b0 := 0) [.int (xs (i + 1)), .int (xs (i + 2)), .int (xs (i + 3)), .int (xs (i + 4))] [] (st_train hI (xs (i + 1)) (xs (i + 2)) (xs (i + 3)) (xs (i + 4))) d_l_255 LK_l_22 MF_q_train MV_q_train NP_q_train ⟨by decide, by decide⟩ rfl rfl (by decide) (by decide) (ci := 0) rfl rfl rfl ?_
  rintro _ S1 ⟨v, rfl, hE⟩
  refine l_al2 X d_l_258 ?_
  refine l_ld X 1 hi (by decide) (by decide) d_l_259 d_l_260 d_l_261 d_l_262 d_l_263 ?_
  refine l_ld X 2 hi (by decide) (by decide) d_l_264 d_l_265 d_l_266 d_l_267 d_l_268 ?_
  refine l_ld X 3 hi (by decide) (by decide) d_l_269 d_l_270 d_l_271 d_l_272 d_l_273 ?_
  refine l_ld X 4 hi (by decide) (by decide) d_l_274 d_l_275 d_l_276 d_l_277 d_l_278 ?_
  refine l_call X (b0 := 8) [.int (xs (i + 1)), .int (xs (i + 2)), .int (xs (i + 3)), .int (xs (i + 4))] [.int v] hE d_l_279 LK_l_26 MF_m_train MV_m_train NP_m_train ⟨by decide, by decide⟩ rfl rfl (by show 1 ≤ 8; decide) (by decide) (ci := 8) rfl rfl rfl ?_
  rintro _ S2 ⟨rfl, hI2⟩
  exact l_eq X d_l_282 (by decide) (hk S2 hI2)
set_option maxHeartbeats 1000000 in
theorem l_c3 (X : LX Y p s m meth c b L xs) {i : Nat} (hi : i + 6 ≤ L) (hI : Inv S) (hk : ∀ S2, Inv S2 → Lp Y p l e s m below meth c b 778 (Lc Y b i) [] S2) : Lp Y p l e s m below meth c b 287 (Lc Y b i) [] S := by
  refine l_al1 X d_l_287 ?_
  refine l_ld X 1 hi (by decide) (by decide) d_l_288 d_l_289 d_l_290 d_l_291 d_l_292 ?_
  refine l_ld X 2 hi (by decide) (by decide) d_l_293 d_l_294 d_l_295 d_l_296 d_l_297 ?_
  refine l_call X (b0 := 0) [.int (xs (i + 1)), .int (xs (i + 2))] [] (st_centre hI (xs (i + 1)) (xs (i + 2))) d_l_298 LK_l_27 MF_q_centre MV_q_centre NP_q_centre ⟨by decide, by decide⟩ rfl rfl (by decide) (by decide) (ci := 0) rfl rfl rfl ?_
  rintro _ S1 ⟨v, rfl, hE⟩
  refine l_al2 X d_l_301 ?_
  refine l_ld X 1 hi (by decide) (by decide) d_l_302 d_l_303 d_l_304 d_l_305 d_l_306 ?_
  refine l_ld X 2 hi (by decide) (by decide) d_l_307 d_l_308 d_l_309 d_l_310 d_l_311 ?_
  refine l_call X (b0 := 8) [.int (xs (i + 1)), .int (xs (i + 2))] [.int v] hE d_l_312 LK_l_31 MF_m_centre MV_m_centre NP_m_centre ⟨by decide, by decide⟩ rfl rfl (by show 1 ≤ 8; decide) (by decide) (ci := 8) rfl rfl rfl ?_
  rintro _ S2 ⟨rfl, hI2⟩
  exact l_eq X d_l_315 (by decide) (hk S2 hI2)
set_option maxHeartbeats 1000000 in
theorem l_c4 (X : LX Y p s m meth c b L xs) {i : Nat} (hi : i + 6 ≤ L) (hI : Inv S) (hk : ∀ S2, Inv S2 → Lp Y p l e s m below meth c b 778 (Lc Y b i) [] S2) : Lp Y p l e s m below meth c b 320 (Lc Y b i) [] S := by
  refine l_al1 X d_l_320 ?_
  refine l_ld X 1 hi (by decide) (by decide) d_l_321 d_l_322 d_l_323 d_l_324 d_l_325 ?_
  refine l_ld X 2 hi (by decide) (by decide) d_l_326 d_l_327 d_l_328 d_l_329 d_l_330 ?_
  refine l_ld X 3 hi (by decide) (by decide) d_l_331 d_l_332 d_l_333 d_l_334 d_l_335 ?_
  refine l_call X (b0 := 0) [.int (xs (i + 1)), .int (xs (i + 2)), .int (xs (i + 3))] [] (st_word hI (xs (i + 1)) (xs (i + 2)) (xs (i + 3))) d_l_336 LK_l_32 MF_q_word MV_q_word NP_q_word ⟨by decide, by decide⟩ rfl rfl (by decide) (by decide) (ci := 0) rfl rfl rfl ?_
  rintro _ S1 ⟨v, rfl, hE⟩
  refine l_al2 X d_l_339 ?_
  refine l_ld X 1 hi (by decide) (by decide) d_l_340 d_l_341 d_l_342 d_l_343 d_l_344 ?_
  refine l_ld X 2 hi (by decide) (by decide) d_l_345 d_l_346 d_l_347 d_l_348 d_l_349 ?_
  refine l_ld X 3 hi (by decide) (by decide) d_l_350 d_l_351 d_l_352 d_l_353 d_l_354 ?_
  refine l_call X (b0 := 8) [.int (xs (i + 1)), .int (xs (i + 2)), .int (xs (i + 3))] [.int v] hE d_l_355 LK_l_36 MF_m_word MV_m_word NP_m_word ⟨by decide, by decide⟩ rfl rfl (by show 1 ≤ 8; decide) (by decide) (ci := 8) rfl rfl rfl ?_
  rintro _ S2 ⟨rfl, hI2⟩
  exact l_eq X d_l_358 (by decide) (hk S2 hI2)
set_option maxHeartbeats 1000000 in
theorem l_c5 (X : LX Y p s m meth c b L xs) {i : Nat} (hi : i + 6 ≤ L) (hI : Inv S) (hk : ∀ S2, Inv S2 → Lp Y p l e s m below meth c b 778 (Lc Y b i) [] S2) : Lp Y p l e s m below meth c b 363 (Lc Y b i) [] S := by
  refine l_al1 X d_l_363 ?_
  refine l_ld X 1 hi (by decide) (by decide) d_l_364 d_l_365 d_l_366 d_l_367 d_l_368 ?_
  refine l_ld X 2 hi (by decide) (by decide) d_l_369 d_l_370 d_l_371 d_l_372 d_l_373 ?_
  refine l_ld X 3 hi (by decide) (by decide) d_l_374 d_l_375 d_l_376 d_l_377 d_l_378 ?_
  refine l_ld X 4 hi (by decide) (by decide) d_l_379 d_l_380 d_l_381 d_l_382 d_l_383 ?_
  refine l_ld X 5 hi (by decide) (by decide) d_l_384 d_l_385 d_l_386 d_l_387 d_l_388 ?_
  refine l_call X (b0 := 0) [.int (xs (i + 1)), .int (xs (i + 2)), .int (xs (i + 3)), .int (xs (i + 4)), .int (xs (i + 5))] [] (st_add hI (xs (i + 1)) (xs (i + 2)) (xs (i + 3)) (xs (i + 4)) (xs (i + 5))) d_l_389 LK_l_37 MF_q_add MV_q_add NP_q_add ⟨by decide, by decide⟩ rfl rfl (by decide) (by decide) (ci := 0) rfl rfl rfl ?_
  rintro _ S1 ⟨v, rfl, hE⟩
  refine l_al2 X d_l_392 ?_
  refine l_ld X 1 hi (by decide) (by decide) d_l_393 d_l_394 d_l_395 d_l_396 d_l_397 ?_
  refine l_ld X 2 hi (by decide) (by decide) d_l_398 d_l_399 d_l_400 d_l_401 d_l_402 ?_
  refine l_ld X 3 hi (by decide) (by decide) d_l_403 d_l_404 d_l_405 d_l_406 d_l_407 ?_
  refine l_ld X 4 hi (by decide) (by decide) d_l_408 d_l_409 d_l_410 d_l_411 d_l_412 ?_
  refine l_ld X 5 hi (by decide) (by decide) d_l_413 d_l_414 d_l_415 d_l_416 d_l_417 ?_
  refine l_call X (b0 := 8) [.int (xs (i + 1)), .int (xs (i + 2)), .int (xs (i + 3)), .int (xs (i + 4)), .int (xs (i + 5))] [.int v] hE d_l_418 LK_l_41 MF_m_add MV_m_add NP_m_add ⟨by decide, by decide⟩ rfl rfl (by show 1 ≤ 8; decide) (by decide) (ci := 8) rfl rfl rfl ?_
  rintro _ S2 ⟨rfl, hI2⟩
  exact l_eq X d_l_421 (by decide) (hk S2 hI2)
set_option maxHeartbeats 1000000 in
theorem l_c6 (X : LX Y p s m meth c b L xs) {i : Nat} (hi : i + 6 ≤ L) (hI : Inv S) (hk : ∀ S2, Inv S2 → Lp Y p l e s m below meth c b 778 (Lc Y b i) [] S2) : Lp Y p l e s m below meth c b 426 (Lc Y b i) [] S := by
  refine l_al1 X d_l_426 ?_
  refine l_ld X 1 hi (by decide) (by decide) d_l_427 d_l_428 d_l_429 d_l_430 d_l_431 ?_
  refine l_call X (b0 := 0) [.int (xs (i + 1))] [] (st_remove hI (xs (i + 1))) d_l_432 LK_l_42 MF_q_remove MV_q_remove NP_q_remove ⟨by decide, by decide⟩ rfl rfl (by decide) (by decide) (ci := 0) rfl rfl rfl ?_
  rintro _ S1 ⟨v, rfl, hE⟩
  refine l_al2 X d_l_435 ?_
  refine l_ld X 1 hi (by decide) (by decide) d_l_436 d_l_437 d_l_438 d_l_439 d_l_440 ?_
  refine l_call X (b0 := 8) [.int (xs (i + 1))] [.int v] hE d_l_441 LK_l_46 MF_m_remove MV_m_remove NP_m_remove ⟨by decide, by decide⟩ rfl rfl (by show 1 ≤ 8; decide) (by decide) (ci := 8) rfl rfl rfl ?_
  rintro _ S2 ⟨rfl, hI2⟩
  exact l_eq X d_l_444 (by decide) (hk S2 hI2)
set_option maxHeartbeats 1000000 in
theorem l_c7 (X : LX Y p s m meth c b L xs) {i : Nat} (hi : i + 6 ≤ L) (hI : Inv S) (hk : ∀ S2, Inv S2 → Lp Y p l e s m below meth c b 778 (Lc Y b i) [] S2) : Lp Y p l e s m below meth c b 449 (Lc Y b i) [] S := by
  refine l_al1 X d_l_449 ?_
  refine l_ld X 1 hi (by decide) (by decide) d_l_450 d_l_451 d_l_452 d_l_453 d_l_454 ?_
  refine l_call X (b0 := 0) [.int (xs (i + 1))] [] (st_listOf hI (xs (i + 1))) d_l_455 LK_l_47 MF_q_listOf MV_q_listOf NP_q_listOf ⟨by decide, by decide⟩ rfl rfl (by decide) (by decide) (ci := 0) rfl rfl rfl ?_
  rintro _ S1 ⟨v, rfl, hE⟩
  refine l_al2 X d_l_458 ?_
  refine l_ld X 1 hi (by decide) (by decide) d_l_459 d_l_460 d_l_461 d_l_462 d_l_463 ?_
  refine l_call X (b0 := 8) [.int (xs (i + 1))] [.int v] hE d_l_464 LK_l_51 MF_m_listOf MV_m_listOf NP_m_listOf ⟨by decide, by decide⟩ rfl rfl (by show 1 ≤ 8; decide) (by decide) (ci := 8) rfl rfl rfl ?_
  rintro _ S2 ⟨rfl, hI2⟩
  exact l_eq X d_l_467 (by decide) (hk S2 hI2)
set_option maxHeartbeats 1000000 in
theorem l_c8 (X : LX Y p s m meth c b L xs) {i : Nat} (hi : i + 6 ≤ L) (hI : Inv S) (hk : ∀ S2, Inv S2 → Lp Y p l e s m below meth c b 778 (Lc Y b i) [] S2) : Lp Y p l e s m below meth c b 472 (Lc Y b i) [] S := by
  refine l_al1 X d_l_472 ?_
  refine l_ld X 1 hi (by decide) (by decide) d_l_473 d_l_474 d_l_475 d_l_476 d_l_477 ?_
  refine l_call X (b0 := 0) [.int (xs (i + 1))] [] (st_codeOf hI (xs (i + 1))) d_l_478 LK_l_52 MF_q_codeOf MV_q_codeOf NP_q_codeOf ⟨by decide, by decide⟩ rfl rfl (by decide) (by decide) (ci := 0) rfl rfl rfl ?_
  rintro _ S1 ⟨v, rfl, hE⟩
  refine l_al2 X d_l_481 ?_
  refine l_ld X 1 hi (by decide) (by decide) d_l_482 d_l_483 d_l_484 d_l_485 d_l_486 ?_
  refine l_call X (b0 := 8) [.int (xs (i + 1))] [.int v] hE d_l_487 LK_l_55 MF_m_codeOf MV_m_codeOf NP_m_codeOf ⟨by decide, by decide⟩ rfl rfl (by show 1 ≤ 8; decide) (by decide) (ci := 8) rfl rfl rfl ?_
  rintro _ S2 ⟨rfl, hI2⟩
  exact l_eq X d_l_490 (by decide) (hk S2 hI2)
set_option maxHeartbeats 1000000 in
theorem l_c9 (X : LX Y p s m meth c b L xs) {i : Nat} (hi : i + 6 ≤ L) (hI : Inv S) (hk : ∀ S2, Inv S2 → Lp Y p l e s m below meth c b 778 (Lc Y b i) [] S2) : Lp Y p l e s m below meth c b 495 (Lc Y b i) [] S := by
  refine l_al1 X d_l_495 ?_
  refine l_ld X 1 hi (by decide) (by decide) d_l_496 d_l_497 d_l_498 d_l_499 d_l_500 ?_
  refine l_call X (b0 := 0) [.int (xs (i + 1))] [] (st_entries hI (xs (i + 1))) d_l_501 LK_l_56 MF_q_entries MV_q_entries NP_q_entries ⟨by decide, by decide⟩ rfl rfl (by decide) (by decide) (ci := 0) rfl rfl rfl ?_
  rintro _ S1 ⟨v, rfl, hE⟩
  refine l_al2 X d_l_504 ?_
  refine l_ld X 1 hi (by decide) (by decide) d_l_505 d_l_506 d_l_507 d_l_508 d_l_509 ?_
  refine l_call X (b0 := 8) [.int (xs (i + 1))] [.int v] hE d_l_510 LK_l_59 MF_m_entries MV_m_entries NP_m_entries ⟨by decide, by decide⟩ rfl rfl (by show 1 ≤ 8; decide) (by decide) (ci := 8) rfl rfl rfl ?_
  rintro _ S2 ⟨rfl, hI2⟩
  exact l_eq X d_l_513 (by decide) (hk S2 hI2)
set_option maxHeartbeats 1000000 in
theorem l_c10 (X : LX Y p s m meth c b L xs) {i : Nat} (hi : i + 6 ≤ L) (hI : Inv S) (hk : ∀ S2, Inv S2 → Lp Y p l e s m below meth c b 778 (Lc Y b i) [] S2) : Lp Y p l e s m below meth c b 518 (Lc Y b i) [] S := by
  refine l_al1 X d_l_518 ?_
  refine l_ld X 1 hi (by decide) (by decide) d_l_519 d_l_520 d_l_521 d_l_522 d_l_523 ?_
  refine l_ld X 2 hi (by decide) (by decide) d_l_524 d_l_525 d_l_526 d_l_527 d_l_528 ?_
  refine l_call X (b0 := 0) [.int (xs (i + 1)), .int (xs (i + 2))] [] (st_effort hI (xs (i + 1)) (xs (i + 2))) d_l_529 LK_l_60 MF_q_effort MV_q_effort NP_q_effort ⟨by decide, by decide⟩ rfl rfl (by decide) (by decide) (ci := 0) rfl rfl rfl ?_
  rintro _ S1 ⟨v, rfl, hE⟩
  refine l_al2 X d_l_532 ?_
  refine l_ld X 1 hi (by decide) (by decide) d_l_533 d_l_534 d_l_535 d_l_536 d_l_537 ?_
  refine l_ld X 2 hi (by decide) (by decide) d_l_538 d_l_539 d_l_540 d_l_541 d_l_542 ?_
  refine l_call X (b0 := 8) [.int (xs (i + 1)), .int (xs (i + 2))] [.int v] hE d_l_543 LK_l_64 MF_m_effort MV_m_effort NP_m_effort ⟨by decide, by decide⟩ rfl rfl (by show 1 ≤ 8; decide) (by decide) (ci := 8) rfl rfl rfl ?_
  rintro _ S2 ⟨rfl, hI2⟩
  exact l_eq X d_l_546 (by decide) (hk S2 hI2)
set_option maxHeartbeats 1000000 in
theorem l_c11 (X : LX Y p s m meth c b L xs) {i : Nat} (hi : i + 6 ≤ L) (hI : Inv S) (hk : ∀ S2, Inv S2 → Lp Y p l e s m below meth c b 778 (Lc Y b i) [] S2) : Lp Y p l e s m below meth c b 551 (Lc Y b i) [] S := by
  refine l_al1 X d_l_551 ?_
  refine l_ld X 1 hi (by decide) (by decide) d_l_552 d_l_553 d_l_554 d_l_555 d_l_556 ?_
  refine l_ld X 2 hi (by decide) (by decide) d_l_557 d_l_558 d_l_559 d_l_560 d_l_561 ?_
  refine l_ld X 3 hi (by decide) (by decide) d_l_562 d_l_563 d_l_564 d_l_565 d_l_566 ?_
  refine l_ld X 4 hi (by decide) (by decide) d_l_567 d_l_568 d_l_569 d_l_570 d_l_571 ?_
  refine l_ld X 5 hi (by decide) (by decide) d_l_572 d_l_573 d_l_574 d_l_575 d_l_576 ?_
  refine l_call X (b0 := 0) [.int (xs (i + 1)), .int (xs (i + 2)), .int (xs (i + 3)), .int (xs (i + 4)), .int (xs (i + 5))] [] (st_search hI (xs (i + 1)) (xs (i + 2)) (xs (i + 3)) (xs (i + 4)) (xs (i + 5))) d_l_577 LK_l_65 MF_q_search MV_q_search NP_q_search ⟨by decide, by decide⟩ rfl rfl (by decide) (by decide) (ci := 0) rfl rfl rfl ?_
  rintro _ S1 ⟨v, rfl, hE⟩
  refine l_al2 X d_l_580 ?_
  refine l_ld X 1 hi (by decide) (by decide) d_l_581 d_l_582 d_l_583 d_l_584 d_l_585 ?_
  refine l_ld X 2 hi (by decide) (by decide) d_l_586 d_l_587 d_l_588 d_l_589 d_l_590 ?_
  refine l_ld X 3 hi (by decide) (by decide) d_l_591 d_l_592 d_l_593 d_l_594 d_l_595 ?_
  refine l_ld X 4 hi (by decide) (by decide) d_l_596 d_l_597 d_l_598 d_l_599 d_l_600 ?_
  refine l_ld X 5 hi (by decide) (by decide) d_l_601 d_l_602 d_l_603 d_l_604 d_l_605 ?_
  refine l_call X (b0 := 8) [.int (xs (i + 1)), .int (xs (i + 2)), .int (xs (i + 3)), .int (xs (i + 4)), .int (xs (i + 5))] [.int v] hE d_l_606 LK_l_68 MF_m_search MV_m_search NP_m_search ⟨by decide, by decide⟩ rfl rfl (by show 1 ≤ 8; decide) (by decide) (ci := 8) rfl rfl rfl ?_
  rintro _ S2 ⟨rfl, hI2⟩
  exact l_eq X d_l_609 (by decide) (hk S2 hI2)
set_option maxHeartbeats 1000000 in
theorem l_c12 (X : LX Y p s m meth c b L xs) {i : Nat} (hi : i + 6 ≤ L) (hI : Inv S) (hk : ∀ S2, Inv S2 → Lp Y p l e s m below meth c b 778 (Lc Y b i) [] S2) : Lp Y p l e s m below meth c b 614 (Lc Y b i) [] S := by
  refine l_al1 X d_l_614 ?_
  refine l_ld X 1 hi (by decide) (by decide) d_l_615 d_l_616 d_l_617 d_l_618 d_l_619 ?_
  refine l_call X (b0 := 0) [.int (xs (i + 1))] [] (st_hit hI (xs (i + 1))) d_l_620 LK_l_69 MF_q_hit MV_q_hit NP_q_hit ⟨by decide, by decide⟩ rfl rfl (by decide) (by decide) (ci := 0) rfl rfl rfl ?_
  rintro _ S1 ⟨v, rfl, hE⟩
  refine l_al2 X d_l_623 ?_
  refine l_ld X 1 hi (by decide) (by decide) d_l_624 d_l_625 d_l_626 d_l_627 d_l_628 ?_
  refine l_call X (b0 := 8) [.int (xs (i + 1))] [.int v] hE d_l_629 LK_l_72 MF_m_hit MV_m_hit NP_m_hit ⟨by decide, by decide⟩ rfl rfl (by show 1 ≤ 8; decide) (by decide) (ci := 8) rfl rfl rfl ?_
  rintro _ S2 ⟨rfl, hI2⟩
  exact l_eq X d_l_632 (by decide) (hk S2 hI2)
set_option maxHeartbeats 1000000 in
theorem l_c13 (X : LX Y p s m meth c b L xs) {i : Nat} (hi : i + 6 ≤ L) (hI : Inv S) (hk : ∀ S2, Inv S2 → Lp Y p l e s m below meth c b 778 (Lc Y b i) [] S2) : Lp Y p l e s m below meth c b 637 (Lc Y b i) [] S := by
  refine l_al1 X d_l_637 ?_
  refine l_ld X 1 hi (by decide) (by decide) d_l_638 d_l_639 d_l_640 d_l_641 d_l_642 ?_
  refine l_call X (b0 := 0) [.int (xs (i + 1))] [] (st_far hI (xs (i + 1))) d_l_643 LK_l_73 MF_q_far MV_q_far NP_q_far ⟨by decide, by decide⟩ rfl rfl (by decide) (by decide) (ci := 0) rfl rfl rfl ?_
  rintro _ S1 ⟨v, rfl, hE⟩
  refine l_al2 X d_l_646 ?_
  refine l_ld X 1 hi (by decide) (by decide) d_l_647 d_l_648 d_l_649 d_l_650 d_l_651 ?_
  refine l_call X (b0 := 8) [.int (xs (i + 1))] [.int v] hE d_l_652 LK_l_76 MF_m_far MV_m_far NP_m_far ⟨by decide, by decide⟩ rfl rfl (by show 1 ≤ 8; decide) (by decide) (ci := 8) rfl rfl rfl ?_
  rintro _ S2 ⟨rfl, hI2⟩
  exact l_eq X d_l_655 (by decide) (hk S2 hI2)
set_option maxHeartbeats 1000000 in
theorem l_c14 (X : LX Y p s m meth c b L xs) {i : Nat} (hi : i + 6 ≤ L) (hI : Inv S) (hk : ∀ S2, Inv S2 → Lp Y p l e s m below meth c b 778 (Lc Y b i) [] S2) : Lp Y p l e s m below meth c b 660 (Lc Y b i) [] S := by
  refine l_al1 X d_l_660 ?_
  refine l_call X (b0 := 0) [] [] (st_scanned hI) d_l_661 LK_l_77 MF_q_scanned MV_q_scanned NP_q_scanned ⟨by decide, by decide⟩ rfl rfl (by decide) (by decide) (ci := 0) rfl rfl rfl ?_
  rintro _ S1 ⟨v, rfl, hE⟩
  refine l_al2 X d_l_664 ?_
  refine l_call X (b0 := 8) [] [.int v] hE d_l_665 LK_l_81 MF_m_scanned MV_m_scanned NP_m_scanned ⟨by decide, by decide⟩ rfl rfl (by show 1 ≤ 8; decide) (by decide) (ci := 8) rfl rfl rfl ?_
  rintro _ S2 ⟨rfl, hI2⟩
  exact l_eq X d_l_668 (by decide) (hk S2 hI2)
set_option maxHeartbeats 1000000 in
theorem l_c15 (X : LX Y p s m meth c b L xs) {i : Nat} (hi : i + 6 ≤ L) (hI : Inv S) (hk : ∀ S2, Inv S2 → Lp Y p l e s m below meth c b 778 (Lc Y b i) [] S2) : Lp Y p l e s m below meth c b 673 (Lc Y b i) [] S := by
  refine l_al1 X d_l_673 ?_
  refine l_call X (b0 := 0) [] [] (st_save hI) d_l_674 LK_l_82 MF_q_save MV_q_save NP_q_save ⟨by decide, by decide⟩ rfl rfl (by decide) (by decide) (ci := 0) rfl rfl rfl ?_
  rintro _ S1 ⟨v, rfl, hE⟩
  refine l_al2 X d_l_677 ?_
  refine l_call X (b0 := 8) [] [.int v] hE d_l_678 LK_l_85 MF_m_save MV_m_save NP_m_save ⟨by decide, by decide⟩ rfl rfl (by show 1 ≤ 8; decide) (by decide) (ci := 8) rfl rfl rfl ?_
  rintro _ S2 ⟨rfl, hI2⟩
  exact l_eq X d_l_681 (by decide) (hk S2 hI2)
set_option maxHeartbeats 1000000 in
theorem l_c16 (X : LX Y p s m meth c b L xs) {i : Nat} (hi : i + 6 ≤ L) (hI : Inv S) (hk : ∀ S2, Inv S2 → Lp Y p l e s m below meth c b 778 (Lc Y b i) [] S2) : Lp Y p l e s m below meth c b 686 (Lc Y b i) [] S := by
  refine l_al1 X d_l_686 ?_
  refine l_ld X 1 hi (by decide) (by decide) d_l_687 d_l_688 d_l_689 d_l_690 d_l_691 ?_
  refine l_ld X 2 hi (by decide) (by decide) d_l_692 d_l_693 d_l_694 d_l_695 d_l_696 ?_
  refine l_call X (b0 := 0) [.int (xs (i + 1)), .int (xs (i + 2))] [] (st_alter hI (xs (i + 1)) (xs (i + 2))) d_l_697 LK_l_86 MF_q_alter MV_q_alter NP_q_alter ⟨by decide, by decide⟩ rfl rfl (by decide) (by decide) (ci := 0) rfl rfl rfl ?_
  rintro _ S1 ⟨v, rfl, hE⟩
  refine l_al2 X d_l_700 ?_
  refine l_ld X 1 hi (by decide) (by decide) d_l_701 d_l_702 d_l_703 d_l_704 d_l_705 ?_
  refine l_ld X 2 hi (by decide) (by decide) d_l_706 d_l_707 d_l_708 d_l_709 d_l_710 ?_
  refine l_call X (b0 := 8) [.int (xs (i + 1)), .int (xs (i + 2))] [.int v] hE d_l_711 LK_l_89 MF_m_alter MV_m_alter NP_m_alter ⟨by decide, by decide⟩ rfl rfl (by show 1 ≤ 8; decide) (by decide) (ci := 8) rfl rfl rfl ?_
  rintro _ S2 ⟨rfl, hI2⟩
  exact l_eq X d_l_714 (by decide) (hk S2 hI2)
set_option maxHeartbeats 1000000 in
theorem l_c17 (X : LX Y p s m meth c b L xs) {i : Nat} (hi : i + 6 ≤ L) (hI : Inv S) (hk : ∀ S2, Inv S2 → Lp Y p l e s m below meth c b 778 (Lc Y b i) [] S2) : Lp Y p l e s m below meth c b 719 (Lc Y b i) [] S := by
  refine l_al1 X d_l_719 ?_
  refine l_ld X 1 hi (by decide) (by decide) d_l_720 d_l_721 d_l_722 d_l_723 d_l_724 ?_
  refine l_call X (b0 := 0) [.int (xs (i + 1))] [] (st_cut hI (xs (i + 1))) d_l_725 LK_l_90 MF_q_cut MV_q_cut NP_q_cut ⟨by decide, by decide⟩ rfl rfl (by decide) (by decide) (ci := 0) rfl rfl rfl ?_
  rintro _ S1 ⟨v, rfl, hE⟩
  refine l_al2 X d_l_728 ?_
  refine l_ld X 1 hi (by decide) (by decide) d_l_729 d_l_730 d_l_731 d_l_732 d_l_733 ?_
  refine l_call X (b0 := 8) [.int (xs (i + 1))] [.int v] hE d_l_734 LK_l_93 MF_m_cut MV_m_cut NP_m_cut ⟨by decide, by decide⟩ rfl rfl (by show 1 ≤ 8; decide) (by decide) (ci := 8) rfl rfl rfl ?_
  rintro _ S2 ⟨rfl, hI2⟩
  exact l_eq X d_l_737 (by decide) (hk S2 hI2)
set_option maxHeartbeats 1000000 in
theorem l_c18 (X : LX Y p s m meth c b L xs) {i : Nat} (hi : i + 6 ≤ L) (hI : Inv S) (hk : ∀ S2, Inv S2 → Lp Y p l e s m below meth c b 778 (Lc Y b i) [] S2) : Lp Y p l e s m below meth c b 742 (Lc Y b i) [] S := by
  refine l_al1 X d_l_742 ?_
  refine l_ld X 1 hi (by decide) (by decide) d_l_743 d_l_744 d_l_745 d_l_746 d_l_747 ?_
  refine l_call X (b0 := 0) [.int (xs (i + 1))] [] (st_byteAt hI (xs (i + 1))) d_l_748 LK_l_94 MF_q_byteAt MV_q_byteAt NP_q_byteAt ⟨by decide, by decide⟩ rfl rfl (by decide) (by decide) (ci := 0) rfl rfl rfl ?_
  rintro _ S1 ⟨v, rfl, hE⟩
  refine l_al2 X d_l_751 ?_
  refine l_ld X 1 hi (by decide) (by decide) d_l_752 d_l_753 d_l_754 d_l_755 d_l_756 ?_
  refine l_call X (b0 := 8) [.int (xs (i + 1))] [.int v] hE d_l_757 LK_l_97 MF_m_byteAt MV_m_byteAt NP_m_byteAt ⟨by decide, by decide⟩ rfl rfl (by show 1 ≤ 8; decide) (by decide) (ci := 8) rfl rfl rfl ?_
  rintro _ S2 ⟨rfl, hI2⟩
  exact l_eq X d_l_760 (by decide) (hk S2 hI2)
set_option maxHeartbeats 1000000 in
theorem l_c19 (X : LX Y p s m meth c b L xs) {i : Nat} (hi : i + 6 ≤ L) (hI : Inv S) (hk : ∀ S2, Inv S2 → Lp Y p l e s m below meth c b 778 (Lc Y b i) [] S2) : Lp Y p l e s m below meth c b 765 (Lc Y b i) [] S := by
  refine l_al1 X d_l_765 ?_
  refine l_call X (b0 := 0) [] [] (st_load hI) d_l_766 LK_l_98 MF_q_load MV_q_load NP_q_load ⟨by decide, by decide⟩ rfl rfl (by decide) (by decide) (ci := 0) rfl rfl rfl ?_
  rintro _ S1 ⟨v, rfl, hE⟩
  refine l_al2 X d_l_769 ?_
  refine l_call X (b0 := 8) [] [.int v] hE d_l_770 LK_l_101 MF_m_load MV_m_load NP_m_load ⟨by decide, by decide⟩ rfl rfl (by show 1 ≤ 8; decide) (by decide) (ci := 8) rfl rfl rfl ?_
  rintro _ S2 ⟨rfl, hI2⟩
  exact l_eq X d_l_773 (by decide) (hk S2 hI2)
end LAWC
