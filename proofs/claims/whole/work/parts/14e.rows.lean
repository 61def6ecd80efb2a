/-! every row of every method is sound -/
section MBX
variable {l : Launch} {D : va_G} {cT : Nat → ClassId} {s0 : State} {args0 : Array Value}
theorem mr_L_law (hX : mb_Fx l D cT s0 args0) : ∀ pc i, mb_look mc_L_law pc = some i → mb_Snd l D cT s0 mb_mt RL "law" cL_law 7 (some .boolean) [] pc i := by
  unfold mc_L_law
  refine mb_l_cons (ms_new (ci := 7) hX (C := RX7) (T := TX7) (N := 7) rfl mu_X7 tyX7 tyX7_ok mf_X7 rfl mw_67 mw_68 mw_51 dL_law_0 rfl) ?_
  refine mb_l_cons (ms_dup dL_law_3 rfl) ?_
  refine mb_l_cons (ms_calli hX (y := 40) (y0 := yX7_init) (bytes := cX7_init) rfl mq_L_86_X7_init rfl mw_69 mw_70 dL_law_4 rfl) ?_
  refine mb_l_cons (ms_astore_n dL_law_7 rfl rfl) ?_
  refine mb_l_cons (ms_new (ci := 8) hX (C := RX8) (T := TX8) (N := 26) rfl mu_X8 tyX8 tyX8_ok mf_X8 rfl mw_747 mw_748 mw_52 dL_law_8 rfl) ?_
  refine mb_l_cons (ms_dup dL_law_11 rfl) ?_
  refine mb_l_cons (ms_calli hX (y := 84) (y0 := yX8_init) (bytes := cX8_init) rfl mq_L_89_X8_init rfl mw_749 mw_750 dL_law_12 rfl) ?_
  refine mb_l_cons (ms_astore_n dL_law_15 rfl rfl) ?_
  refine mb_l_cons (ms_iconst dL_law_16 rfl rfl) ?_
  refine mb_l_cons (ms_newj hX mw_1046 dL_law_17 rfl) ?_
  refine mb_l_cons (ms_astore_n dL_law_19 rfl rfl) ?_
  refine mb_l_cons (ms_iconst dL_law_20 rfl rfl) ?_
  refine mb_l_cons (ms_istore dL_law_21 rfl) ?_
  refine mb_l_cons (ms_iload dL_law_23 rfl) ?_
  refine mb_l_cons (ms_aload_n dL_law_25 rfl rfl) ?_
  refine mb_l_cons (ms_alen hX dL_law_26 rfl) ?_
  refine mb_l_cons (ms_bipush dL_law_27 rfl rfl) ?_
  refine mb_l_cons (ms_isub dL_law_29 rfl) ?_
  refine mb_l_cons (ms_icmp_gt dL_law_30 rfl rfl) ?_
  refine mb_l_cons (ms_aload_n dL_law_33 rfl rfl) ?_
  refine mb_l_cons (ms_iload dL_law_34 rfl) ?_
  refine mb_l_cons (ms_iald hX dL_law_36 rfl) ?_
  refine mb_l_cons (ms_bipush dL_law_37 rfl rfl) ?_
  refine mb_l_cons (ms_iand dL_law_39 rfl) ?_
  refine mb_l_cons (ms_tsw dL_law_40 rfl rfl rfl) ?_
  refine mb_l_cons (ms_aload_n dL_law_140 rfl rfl) ?_
  refine mb_l_cons (ms_aload_n dL_law_141 rfl rfl) ?_
  refine mb_l_cons (ms_callsw hX (y := 140) (y0 := yL_asset) (bytes := cL_asset) rfl mq_L_90_L_asset mw_103 mw_104 dL_law_142 rfl) ?_
  refine mb_l_cons (ms_istore dL_law_145 rfl) ?_
  refine mb_l_cons (ms_aload_n dL_law_147 rfl rfl) ?_
  refine mb_l_cons (ms_callv (ci := 8) hX (y := 99) (y0 := yX8_asset) (bytes := cX8_asset) rfl (C := RX8) (T := TX8) (N := 26) rfl mq_L_95_X8_asset mw_837 mw_838 mw_839 dL_law_148 (fun _ _ _ h => nomatch h) rfl) ?_
  refine mb_l_cons (ms_istore dL_law_151 rfl) ?_
  refine mb_l_cons (ms_aload_n dL_law_153 rfl rfl) ?_
  refine mb_l_cons (ms_callv (ci := 8) hX (y := 85) (y0 := yX8_thrown) (bytes := cX8_thrown) rfl (C := RX8) (T := TX8) (N := 26) rfl mq_L_96_X8_thrown mw_833 mw_834 mw_835 dL_law_154 (fun _ _ _ h => nomatch h) rfl) ?_
  refine mb_l_cons (ms_iload dL_law_157 rfl) ?_
  refine mb_l_cons (ms_icmp_eq dL_law_159 rfl rfl) ?_
  refine mb_l_cons (ms_iconst dL_law_162 rfl rfl) ?_
  refine mb_l_cons (ms_zret dL_law_163 rfl) ?_
  refine mb_l_cons (ms_iload dL_law_164 rfl) ?_
  refine mb_l_cons (ms_if_ne dL_law_166 rfl rfl) ?_
  refine mb_l_cons (ms_aload_n dL_law_169 rfl rfl) ?_
  refine mb_l_cons (ms_iconst dL_law_170 rfl rfl) ?_
  refine mb_l_cons (ms_lald hX dL_law_171 rfl) ?_
  refine mb_l_cons (ms_iload dL_law_172 rfl) ?_
  refine mb_l_cons (ms_i2l dL_law_174 rfl) ?_
  refine mb_l_cons (ms_lcmp dL_law_175 rfl) ?_
  refine mb_l_cons (ms_if_eq dL_law_176 rfl rfl) ?_
  refine mb_l_cons (ms_iconst dL_law_179 rfl rfl) ?_
  refine mb_l_cons (ms_zret dL_law_180 rfl) ?_
  refine mb_l_cons (ms_goto dL_law_181 rfl) ?_
  refine mb_l_cons (ms_aload_n dL_law_184 rfl rfl) ?_
  refine mb_l_cons (ms_aload_n dL_law_185 rfl rfl) ?_
  refine mb_l_cons (ms_iload dL_law_186 rfl) ?_
  refine mb_l_cons (ms_iconst dL_law_188 rfl rfl) ?_
  refine mb_l_cons (ms_iadd dL_law_189 rfl) ?_
  refine mb_l_cons (ms_iald hX dL_law_190 rfl) ?_
  refine mb_l_cons (ms_aload_n dL_law_191 rfl rfl) ?_
  refine mb_l_cons (ms_iload dL_law_192 rfl) ?_
  refine mb_l_cons (ms_iconst dL_law_194 rfl rfl) ?_
  refine mb_l_cons (ms_iadd dL_law_195 rfl) ?_
  refine mb_l_cons (ms_iald hX dL_law_196 rfl) ?_
  refine mb_l_cons (ms_aload_n dL_law_197 rfl rfl) ?_
  refine mb_l_cons (ms_callsw hX (y := 141) (y0 := yL_bone) (bytes := cL_bone) rfl mq_L_99_L_bone mw_220 mw_221 dL_law_198 rfl) ?_
  refine mb_l_cons (ms_istore dL_law_201 rfl) ?_
  refine mb_l_cons (ms_aload_n dL_law_203 rfl rfl) ?_
  refine mb_l_cons (ms_aload_n dL_law_204 rfl rfl) ?_
  refine mb_l_cons (ms_iload dL_law_205 rfl) ?_
  refine mb_l_cons (ms_iconst dL_law_207 rfl rfl) ?_
  refine mb_l_cons (ms_iadd dL_law_208 rfl) ?_
  refine mb_l_cons (ms_iald hX dL_law_209 rfl) ?_
  refine mb_l_cons (ms_aload_n dL_law_210 rfl rfl) ?_
  refine mb_l_cons (ms_iload dL_law_211 rfl) ?_
  refine mb_l_cons (ms_iconst dL_law_213 rfl rfl) ?_
  refine mb_l_cons (ms_iadd dL_law_214 rfl) ?_
  refine mb_l_cons (ms_iald hX dL_law_215 rfl) ?_
  refine mb_l_cons (ms_callv (ci := 8) hX (y := 100) (y0 := yX8_bone) (bytes := cX8_bone) rfl (C := RX8) (T := TX8) (N := 26) rfl mq_L_102_X8_bone mw_845 mw_846 mw_847 dL_law_216 (fun _ _ _ h => nomatch h) rfl) ?_
  refine mb_l_cons (ms_istore dL_law_219 rfl) ?_
  refine mb_l_cons (ms_aload_n dL_law_221 rfl rfl) ?_
  refine mb_l_cons (ms_callv (ci := 8) hX (y := 85) (y0 := yX8_thrown) (bytes := cX8_thrown) rfl (C := RX8) (T := TX8) (N := 26) rfl mq_L_96_X8_thrown mw_833 mw_834 mw_835 dL_law_222 (fun _ _ _ h => nomatch h) rfl) ?_
  refine mb_l_cons (ms_iload dL_law_225 rfl) ?_
  refine mb_l_cons (ms_icmp_eq dL_law_227 rfl rfl) ?_
  refine mb_l_cons (ms_iconst dL_law_230 rfl rfl) ?_
  refine mb_l_cons (ms_zret dL_law_231 rfl) ?_
  refine mb_l_cons (ms_iload dL_law_232 rfl) ?_
  refine mb_l_cons (ms_if_ne dL_law_234 rfl rfl) ?_
  refine mb_l_cons (ms_aload_n dL_law_237 rfl rfl) ?_
  refine mb_l_cons (ms_iconst dL_law_238 rfl rfl) ?_
  refine mb_l_cons (ms_lald hX dL_law_239 rfl) ?_
  refine mb_l_cons (ms_iload dL_law_240 rfl) ?_
  refine mb_l_cons (ms_i2l dL_law_242 rfl) ?_
  refine mb_l_cons (ms_lcmp dL_law_243 rfl) ?_
  refine mb_l_cons (ms_if_eq dL_law_244 rfl rfl) ?_
  refine mb_l_cons (ms_iconst dL_law_247 rfl rfl) ?_
  refine mb_l_cons (ms_zret dL_law_248 rfl) ?_
  refine mb_l_cons (ms_goto dL_law_249 rfl) ?_
  refine mb_l_cons (ms_aload_n dL_law_252 rfl rfl) ?_
  refine mb_l_cons (ms_aload_n dL_law_253 rfl rfl) ?_
  refine mb_l_cons (ms_iload dL_law_254 rfl) ?_
  refine mb_l_cons (ms_iconst dL_law_256 rfl rfl) ?_
  refine mb_l_cons (ms_iadd dL_law_257 rfl) ?_
  refine mb_l_cons (ms_iald hX dL_law_258 rfl) ?_
  refine mb_l_cons (ms_aload_n dL_law_259 rfl rfl) ?_
  refine mb_l_cons (ms_iload dL_law_260 rfl) ?_
  refine mb_l_cons (ms_iconst dL_law_262 rfl rfl) ?_
  refine mb_l_cons (ms_iadd dL_law_263 rfl) ?_
  refine mb_l_cons (ms_iald hX dL_law_264 rfl) ?_
  refine mb_l_cons (ms_aload_n dL_law_265 rfl rfl) ?_
  refine mb_l_cons (ms_iload dL_law_266 rfl) ?_
  refine mb_l_cons (ms_iconst dL_law_268 rfl rfl) ?_
  refine mb_l_cons (ms_iadd dL_law_269 rfl) ?_
  refine mb_l_cons (ms_iald hX dL_law_270 rfl) ?_
  refine mb_l_cons (ms_aload_n dL_law_271 rfl rfl) ?_
  refine mb_l_cons (ms_iload dL_law_272 rfl) ?_
  refine mb_l_cons (ms_iconst dL_law_274 rfl rfl) ?_
  refine mb_l_cons (ms_iadd dL_law_275 rfl) ?_
  refine mb_l_cons (ms_iald hX dL_law_276 rfl) ?_
  refine mb_l_cons (ms_aload_n dL_law_277 rfl rfl) ?_
  refine mb_l_cons (ms_iload dL_law_278 rfl) ?_
  refine mb_l_cons (ms_iconst dL_law_280 rfl rfl) ?_
  refine mb_l_cons (ms_iadd dL_law_281 rfl) ?_
  refine mb_l_cons (ms_iald hX dL_law_282 rfl) ?_
  refine mb_l_cons (ms_aload_n dL_law_283 rfl rfl) ?_
  refine mb_l_cons (ms_callsw hX (y := 142) (y0 := yL_key) (bytes := cL_key) rfl mq_L_103_L_key mw_280 mw_281 dL_law_284 rfl) ?_
  refine mb_l_cons (ms_istore dL_law_287 rfl) ?_
  refine mb_l_cons (ms_aload_n dL_law_289 rfl rfl) ?_
  refine mb_l_cons (ms_aload_n dL_law_290 rfl rfl) ?_
  refine mb_l_cons (ms_iload dL_law_291 rfl) ?_
  refine mb_l_cons (ms_iconst dL_law_293 rfl rfl) ?_
  refine mb_l_cons (ms_iadd dL_law_294 rfl) ?_
  refine mb_l_cons (ms_iald hX dL_law_295 rfl) ?_
  refine mb_l_cons (ms_aload_n dL_law_296 rfl rfl) ?_
  refine mb_l_cons (ms_iload dL_law_297 rfl) ?_
  refine mb_l_cons (ms_iconst dL_law_299 rfl rfl) ?_
  refine mb_l_cons (ms_iadd dL_law_300 rfl) ?_
  refine mb_l_cons (ms_iald hX dL_law_301 rfl) ?_
  refine mb_l_cons (ms_aload_n dL_law_302 rfl rfl) ?_
  refine mb_l_cons (ms_iload dL_law_303 rfl) ?_
  refine mb_l_cons (ms_iconst dL_law_305 rfl rfl) ?_
  refine mb_l_cons (ms_iadd dL_law_306 rfl) ?_
  refine mb_l_cons (ms_iald hX dL_law_307 rfl) ?_
  refine mb_l_cons (ms_aload_n dL_law_308 rfl rfl) ?_
  refine mb_l_cons (ms_iload dL_law_309 rfl) ?_
  refine mb_l_cons (ms_iconst dL_law_311 rfl rfl) ?_
  refine mb_l_cons (ms_iadd dL_law_312 rfl) ?_
  refine mb_l_cons (ms_iald hX dL_law_313 rfl) ?_
  refine mb_l_cons (ms_aload_n dL_law_314 rfl rfl) ?_
  refine mb_l_cons (ms_iload dL_law_315 rfl) ?_
  refine mb_l_cons (ms_iconst dL_law_317 rfl rfl) ?_
  refine mb_l_cons (ms_iadd dL_law_318 rfl) ?_
  refine mb_l_cons (ms_iald hX dL_law_319 rfl) ?_
  refine mb_l_cons (ms_callv (ci := 8) hX (y := 103) (y0 := yX8_key) (bytes := cX8_key) rfl (C := RX8) (T := TX8) (N := 26) rfl mq_L_106_X8_key mw_867 mw_868 mw_869 dL_law_320 (fun _ _ _ h => nomatch h) rfl) ?_
  refine mb_l_cons (ms_istore dL_law_323 rfl) ?_
  refine mb_l_cons (ms_aload_n dL_law_325 rfl rfl) ?_
  refine mb_l_cons (ms_callv (ci := 8) hX (y := 85) (y0 := yX8_thrown) (bytes := cX8_thrown) rfl (C := RX8) (T := TX8) (N := 26) rfl mq_L_96_X8_thrown mw_833 mw_834 mw_835 dL_law_326 (fun _ _ _ h => nomatch h) rfl) ?_
  refine mb_l_cons (ms_iload dL_law_329 rfl) ?_
  refine mb_l_cons (ms_icmp_eq dL_law_331 rfl rfl) ?_
  refine mb_l_cons (ms_iconst dL_law_334 rfl rfl) ?_
  refine mb_l_cons (ms_zret dL_law_335 rfl) ?_
  refine mb_l_cons (ms_iload dL_law_336 rfl) ?_
  refine mb_l_cons (ms_if_ne dL_law_338 rfl rfl) ?_
  refine mb_l_cons (ms_aload_n dL_law_341 rfl rfl) ?_
  refine mb_l_cons (ms_iconst dL_law_342 rfl rfl) ?_
  refine mb_l_cons (ms_lald hX dL_law_343 rfl) ?_
  refine mb_l_cons (ms_iload dL_law_344 rfl) ?_
  refine mb_l_cons (ms_i2l dL_law_346 rfl) ?_
  refine mb_l_cons (ms_lcmp dL_law_347 rfl) ?_
  refine mb_l_cons (ms_if_eq dL_law_348 rfl rfl) ?_
  refine mb_l_cons (ms_iconst dL_law_351 rfl rfl) ?_
  refine mb_l_cons (ms_zret dL_law_352 rfl) ?_
  refine mb_l_cons (ms_goto dL_law_353 rfl) ?_
  refine mb_l_cons (ms_aload_n dL_law_356 rfl rfl) ?_
  refine mb_l_cons (ms_aload_n dL_law_357 rfl rfl) ?_
  refine mb_l_cons (ms_iload dL_law_358 rfl) ?_
  refine mb_l_cons (ms_iconst dL_law_360 rfl rfl) ?_
  refine mb_l_cons (ms_iadd dL_law_361 rfl) ?_
  refine mb_l_cons (ms_iald hX dL_law_362 rfl) ?_
  refine mb_l_cons (ms_aload_n dL_law_363 rfl rfl) ?_
  refine mb_l_cons (ms_iload dL_law_364 rfl) ?_
  refine mb_l_cons (ms_iconst dL_law_366 rfl rfl) ?_
  refine mb_l_cons (ms_iadd dL_law_367 rfl) ?_
  refine mb_l_cons (ms_iald hX dL_law_368 rfl) ?_
  refine mb_l_cons (ms_aload_n dL_law_369 rfl rfl) ?_
  refine mb_l_cons (ms_iload dL_law_370 rfl) ?_
  refine mb_l_cons (ms_iconst dL_law_372 rfl rfl) ?_
  refine mb_l_cons (ms_iadd dL_law_373 rfl) ?_
  refine mb_l_cons (ms_iald hX dL_law_374 rfl) ?_
  refine mb_l_cons (ms_aload_n dL_law_375 rfl rfl) ?_
  refine mb_l_cons (ms_callsw hX (y := 143) (y0 := yL_unkey) (bytes := cL_unkey) rfl mq_L_107_L_unkey mw_339 mw_340 dL_law_376 rfl) ?_
  refine mb_l_cons (ms_istore dL_law_379 rfl) ?_
  refine mb_l_cons (ms_aload_n dL_law_381 rfl rfl) ?_
  refine mb_l_cons (ms_aload_n dL_law_382 rfl rfl) ?_
  refine mb_l_cons (ms_iload dL_law_383 rfl) ?_
  refine mb_l_cons (ms_iconst dL_law_385 rfl rfl) ?_
  refine mb_l_cons (ms_iadd dL_law_386 rfl) ?_
  refine mb_l_cons (ms_iald hX dL_law_387 rfl) ?_
  refine mb_l_cons (ms_aload_n dL_law_388 rfl rfl) ?_
  refine mb_l_cons (ms_iload dL_law_389 rfl) ?_
  refine mb_l_cons (ms_iconst dL_law_391 rfl rfl) ?_
  refine mb_l_cons (ms_iadd dL_law_392 rfl) ?_
  refine mb_l_cons (ms_iald hX dL_law_393 rfl) ?_
  refine mb_l_cons (ms_aload_n dL_law_394 rfl rfl) ?_
  refine mb_l_cons (ms_iload dL_law_395 rfl) ?_
  refine mb_l_cons (ms_iconst dL_law_397 rfl rfl) ?_
  refine mb_l_cons (ms_iadd dL_law_398 rfl) ?_
  refine mb_l_cons (ms_iald hX dL_law_399 rfl) ?_
  refine mb_l_cons (ms_callv (ci := 8) hX (y := 104) (y0 := yX8_unkey) (bytes := cX8_unkey) rfl (C := RX8) (T := TX8) (N := 26) rfl mq_L_110_X8_unkey mw_887 mw_888 mw_889 dL_law_400 (fun _ _ _ h => nomatch h) rfl) ?_
  refine mb_l_cons (ms_istore dL_law_403 rfl) ?_
  refine mb_l_cons (ms_aload_n dL_law_405 rfl rfl) ?_
  refine mb_l_cons (ms_callv (ci := 8) hX (y := 85) (y0 := yX8_thrown) (bytes := cX8_thrown) rfl (C := RX8) (T := TX8) (N := 26) rfl mq_L_96_X8_thrown mw_833 mw_834 mw_835 dL_law_406 (fun _ _ _ h => nomatch h) rfl) ?_
  refine mb_l_cons (ms_iload dL_law_409 rfl) ?_
  refine mb_l_cons (ms_icmp_eq dL_law_411 rfl rfl) ?_
  refine mb_l_cons (ms_iconst dL_law_414 rfl rfl) ?_
  refine mb_l_cons (ms_zret dL_law_415 rfl) ?_
  refine mb_l_cons (ms_iload dL_law_416 rfl) ?_
  refine mb_l_cons (ms_if_ne dL_law_418 rfl rfl) ?_
  refine mb_l_cons (ms_aload_n dL_law_421 rfl rfl) ?_
  refine mb_l_cons (ms_iconst dL_law_422 rfl rfl) ?_
  refine mb_l_cons (ms_lald hX dL_law_423 rfl) ?_
  refine mb_l_cons (ms_iload dL_law_424 rfl) ?_
  refine mb_l_cons (ms_if_eq dL_law_426 rfl rfl) ?_
  refine mb_l_cons (ms_lconst dL_law_429 rfl rfl) ?_
  refine mb_l_cons (ms_goto dL_law_430 rfl) ?_
  refine mb_l_cons (ms_lconst dL_law_433 rfl rfl) ?_
  refine mb_l_cons (ms_lcmp dL_law_434 rfl) ?_
  refine mb_l_cons (ms_if_eq dL_law_435 rfl rfl) ?_
  refine mb_l_cons (ms_iconst dL_law_438 rfl rfl) ?_
  refine mb_l_cons (ms_zret dL_law_439 rfl) ?_
  refine mb_l_cons (ms_goto dL_law_440 rfl) ?_
  refine mb_l_cons (ms_aload_n dL_law_443 rfl rfl) ?_
  refine mb_l_cons (ms_aload_n dL_law_444 rfl rfl) ?_
  refine mb_l_cons (ms_iload dL_law_445 rfl) ?_
  refine mb_l_cons (ms_iconst dL_law_447 rfl rfl) ?_
  refine mb_l_cons (ms_iadd dL_law_448 rfl) ?_
  refine mb_l_cons (ms_iald hX dL_law_449 rfl) ?_
  refine mb_l_cons (ms_aload_n dL_law_450 rfl rfl) ?_
  refine mb_l_cons (ms_callsw hX (y := 144) (y0 := yL_publish) (bytes := cL_publish) rfl mq_L_111_L_publish mw_351 mw_352 dL_law_451 rfl) ?_
  refine mb_l_cons (ms_istore dL_law_454 rfl) ?_
  refine mb_l_cons (ms_aload_n dL_law_456 rfl rfl) ?_
  refine mb_l_cons (ms_aload_n dL_law_457 rfl rfl) ?_
  refine mb_l_cons (ms_iload dL_law_458 rfl) ?_
  refine mb_l_cons (ms_iconst dL_law_460 rfl rfl) ?_
  refine mb_l_cons (ms_iadd dL_law_461 rfl) ?_
  refine mb_l_cons (ms_iald hX dL_law_462 rfl) ?_
  refine mb_l_cons (ms_callv (ci := 8) hX (y := 105) (y0 := yX8_publish) (bytes := cX8_publish) rfl (C := RX8) (T := TX8) (N := 26) rfl mq_L_114_X8_publish mw_891 mw_892 mw_893 dL_law_463 (fun _ _ _ h => nomatch h) rfl) ?_
  refine mb_l_cons (ms_istore dL_law_466 rfl) ?_
  refine mb_l_cons (ms_aload_n dL_law_468 rfl rfl) ?_
  refine mb_l_cons (ms_callv (ci := 8) hX (y := 85) (y0 := yX8_thrown) (bytes := cX8_thrown) rfl (C := RX8) (T := TX8) (N := 26) rfl mq_L_96_X8_thrown mw_833 mw_834 mw_835 dL_law_469 (fun _ _ _ h => nomatch h) rfl) ?_
  refine mb_l_cons (ms_iload dL_law_472 rfl) ?_
  refine mb_l_cons (ms_icmp_eq dL_law_474 rfl rfl) ?_
  refine mb_l_cons (ms_iconst dL_law_477 rfl rfl) ?_
  refine mb_l_cons (ms_zret dL_law_478 rfl) ?_
  refine mb_l_cons (ms_iload dL_law_479 rfl) ?_
  refine mb_l_cons (ms_if_ne dL_law_481 rfl rfl) ?_
  refine mb_l_cons (ms_aload_n dL_law_484 rfl rfl) ?_
  refine mb_l_cons (ms_iconst dL_law_485 rfl rfl) ?_
  refine mb_l_cons (ms_lald hX dL_law_486 rfl) ?_
  refine mb_l_cons (ms_iload dL_law_487 rfl) ?_
  refine mb_l_cons (ms_i2l dL_law_489 rfl) ?_
  refine mb_l_cons (ms_lcmp dL_law_490 rfl) ?_
  refine mb_l_cons (ms_if_eq dL_law_491 rfl rfl) ?_
  refine mb_l_cons (ms_iconst dL_law_494 rfl rfl) ?_
  refine mb_l_cons (ms_zret dL_law_495 rfl) ?_
  refine mb_l_cons (ms_goto dL_law_496 rfl) ?_
  refine mb_l_cons (ms_aload_n dL_law_499 rfl rfl) ?_
  refine mb_l_cons (ms_aload_n dL_law_500 rfl rfl) ?_
  refine mb_l_cons (ms_iload dL_law_501 rfl) ?_
  refine mb_l_cons (ms_iconst dL_law_503 rfl rfl) ?_
  refine mb_l_cons (ms_iadd dL_law_504 rfl) ?_
  refine mb_l_cons (ms_iald hX dL_law_505 rfl) ?_
  refine mb_l_cons (ms_aload_n dL_law_506 rfl rfl) ?_
  refine mb_l_cons (ms_iload dL_law_507 rfl) ?_
  refine mb_l_cons (ms_iconst dL_law_509 rfl rfl) ?_
  refine mb_l_cons (ms_iadd dL_law_510 rfl) ?_
  refine mb_l_cons (ms_iald hX dL_law_511 rfl) ?_
  refine mb_l_cons (ms_aload_n dL_law_512 rfl rfl) ?_
  refine mb_l_cons (ms_iload dL_law_513 rfl) ?_
  refine mb_l_cons (ms_iconst dL_law_515 rfl rfl) ?_
  refine mb_l_cons (ms_iadd dL_law_516 rfl) ?_
  refine mb_l_cons (ms_iald hX dL_law_517 rfl) ?_
  refine mb_l_cons (ms_aload_n dL_law_518 rfl rfl) ?_
  refine mb_l_cons (ms_iload dL_law_519 rfl) ?_
  refine mb_l_cons (ms_iconst dL_law_521 rfl rfl) ?_
  refine mb_l_cons (ms_iadd dL_law_522 rfl) ?_
  refine mb_l_cons (ms_iald hX dL_law_523 rfl) ?_
  refine mb_l_cons (ms_aload_n dL_law_524 rfl rfl) ?_
  refine mb_l_cons (ms_callsw hX (y := 145) (y0 := yL_pose) (bytes := cL_pose) rfl mq_L_115_L_pose mw_396 mw_397 dL_law_525 rfl) ?_
  refine mb_l_cons (ms_istore dL_law_528 rfl) ?_
  refine mb_l_cons (ms_aload_n dL_law_530 rfl rfl) ?_
  refine mb_l_cons (ms_aload_n dL_law_531 rfl rfl) ?_
  refine mb_l_cons (ms_iload dL_law_532 rfl) ?_
  refine mb_l_cons (ms_iconst dL_law_534 rfl rfl) ?_
  refine mb_l_cons (ms_iadd dL_law_535 rfl) ?_
  refine mb_l_cons (ms_iald hX dL_law_536 rfl) ?_
  refine mb_l_cons (ms_aload_n dL_law_537 rfl rfl) ?_
  refine mb_l_cons (ms_iload dL_law_538 rfl) ?_
  refine mb_l_cons (ms_iconst dL_law_540 rfl rfl) ?_
  refine mb_l_cons (ms_iadd dL_law_541 rfl) ?_
  refine mb_l_cons (ms_iald hX dL_law_542 rfl) ?_
  refine mb_l_cons (ms_aload_n dL_law_543 rfl rfl) ?_
  refine mb_l_cons (ms_iload dL_law_544 rfl) ?_
  refine mb_l_cons (ms_iconst dL_law_546 rfl rfl) ?_
  refine mb_l_cons (ms_iadd dL_law_547 rfl) ?_
  refine mb_l_cons (ms_iald hX dL_law_548 rfl) ?_
  refine mb_l_cons (ms_aload_n dL_law_549 rfl rfl) ?_
  refine mb_l_cons (ms_iload dL_law_550 rfl) ?_
  refine mb_l_cons (ms_iconst dL_law_552 rfl rfl) ?_
  refine mb_l_cons (ms_iadd dL_law_553 rfl) ?_
  refine mb_l_cons (ms_iald hX dL_law_554 rfl) ?_
  refine mb_l_cons (ms_callv (ci := 8) hX (y := 107) (y0 := yX8_pose) (bytes := cX8_pose) rfl (C := RX8) (T := TX8) (N := 26) rfl mq_L_118_X8_pose mw_895 mw_896 mw_897 dL_law_555 (fun _ _ _ h => nomatch h) rfl) ?_
  refine mb_l_cons (ms_istore dL_law_558 rfl) ?_
  refine mb_l_cons (ms_aload_n dL_law_560 rfl rfl) ?_
  refine mb_l_cons (ms_callv (ci := 8) hX (y := 85) (y0 := yX8_thrown) (bytes := cX8_thrown) rfl (C := RX8) (T := TX8) (N := 26) rfl mq_L_96_X8_thrown mw_833 mw_834 mw_835 dL_law_561 (fun _ _ _ h => nomatch h) rfl) ?_
  refine mb_l_cons (ms_iload dL_law_564 rfl) ?_
  refine mb_l_cons (ms_icmp_eq dL_law_566 rfl rfl) ?_
  refine mb_l_cons (ms_iconst dL_law_569 rfl rfl) ?_
  refine mb_l_cons (ms_zret dL_law_570 rfl) ?_
  refine mb_l_cons (ms_iload dL_law_571 rfl) ?_
  refine mb_l_cons (ms_if_ne dL_law_573 rfl rfl) ?_
  refine mb_l_cons (ms_aload_n dL_law_576 rfl rfl) ?_
  refine mb_l_cons (ms_iconst dL_law_577 rfl rfl) ?_
  refine mb_l_cons (ms_lald hX dL_law_578 rfl) ?_
  refine mb_l_cons (ms_iload dL_law_579 rfl) ?_
  refine mb_l_cons (ms_i2l dL_law_581 rfl) ?_
  refine mb_l_cons (ms_lcmp dL_law_582 rfl) ?_
  refine mb_l_cons (ms_if_eq dL_law_583 rfl rfl) ?_
  refine mb_l_cons (ms_iconst dL_law_586 rfl rfl) ?_
  refine mb_l_cons (ms_zret dL_law_587 rfl) ?_
  refine mb_l_cons (ms_goto dL_law_588 rfl) ?_
  refine mb_l_cons (ms_aload_n dL_law_591 rfl rfl) ?_
  refine mb_l_cons (ms_aload_n dL_law_592 rfl rfl) ?_
  refine mb_l_cons (ms_iload dL_law_593 rfl) ?_
  refine mb_l_cons (ms_iconst dL_law_595 rfl rfl) ?_
  refine mb_l_cons (ms_iadd dL_law_596 rfl) ?_
  refine mb_l_cons (ms_iald hX dL_law_597 rfl) ?_
  refine mb_l_cons (ms_aload_n dL_law_598 rfl rfl) ?_
  refine mb_l_cons (ms_iload dL_law_599 rfl) ?_
  refine mb_l_cons (ms_iconst dL_law_601 rfl rfl) ?_
  refine mb_l_cons (ms_iadd dL_law_602 rfl) ?_
  refine mb_l_cons (ms_iald hX dL_law_603 rfl) ?_
  refine mb_l_cons (ms_aload_n dL_law_604 rfl rfl) ?_
  refine mb_l_cons (ms_iload dL_law_605 rfl) ?_
  refine mb_l_cons (ms_iconst dL_law_607 rfl rfl) ?_
  refine mb_l_cons (ms_iadd dL_law_608 rfl) ?_
  refine mb_l_cons (ms_iald hX dL_law_609 rfl) ?_
  refine mb_l_cons (ms_aload_n dL_law_610 rfl rfl) ?_
  refine mb_l_cons (ms_iload dL_law_611 rfl) ?_
  refine mb_l_cons (ms_iconst dL_law_613 rfl rfl) ?_
  refine mb_l_cons (ms_iadd dL_law_614 rfl) ?_
  refine mb_l_cons (ms_iald hX dL_law_615 rfl) ?_
  refine mb_l_cons (ms_aload_n dL_law_616 rfl rfl) ?_
  refine mb_l_cons (ms_callsw hX (y := 146) (y0 := yL_poseAnew) (bytes := cL_poseAnew) rfl mq_L_119_L_poseAnew mw_423 mw_424 dL_law_617 rfl) ?_
  refine mb_l_cons (ms_istore dL_law_620 rfl) ?_
  refine mb_l_cons (ms_aload_n dL_law_622 rfl rfl) ?_
  refine mb_l_cons (ms_aload_n dL_law_623 rfl rfl) ?_
  refine mb_l_cons (ms_iload dL_law_624 rfl) ?_
  refine mb_l_cons (ms_iconst dL_law_626 rfl rfl) ?_
  refine mb_l_cons (ms_iadd dL_law_627 rfl) ?_
  refine mb_l_cons (ms_iald hX dL_law_628 rfl) ?_
  refine mb_l_cons (ms_aload_n dL_law_629 rfl rfl) ?_
  refine mb_l_cons (ms_iload dL_law_630 rfl) ?_
  refine mb_l_cons (ms_iconst dL_law_632 rfl rfl) ?_
  refine mb_l_cons (ms_iadd dL_law_633 rfl) ?_
  refine mb_l_cons (ms_iald hX dL_law_634 rfl) ?_
  refine mb_l_cons (ms_aload_n dL_law_635 rfl rfl) ?_
  refine mb_l_cons (ms_iload dL_law_636 rfl) ?_
  refine mb_l_cons (ms_iconst dL_law_638 rfl rfl) ?_
  refine mb_l_cons (ms_iadd dL_law_639 rfl) ?_
  refine mb_l_cons (ms_iald hX dL_law_640 rfl) ?_
  refine mb_l_cons (ms_aload_n dL_law_641 rfl rfl) ?_
  refine mb_l_cons (ms_iload dL_law_642 rfl) ?_
  refine mb_l_cons (ms_iconst dL_law_644 rfl rfl) ?_
  refine mb_l_cons (ms_iadd dL_law_645 rfl) ?_
  refine mb_l_cons (ms_iald hX dL_law_646 rfl) ?_
  refine mb_l_cons (ms_callv (ci := 8) hX (y := 108) (y0 := yX8_poseAnew) (bytes := cX8_poseAnew) rfl (C := RX8) (T := TX8) (N := 26) rfl mq_L_121_X8_poseAnew mw_914 mw_915 mw_916 dL_law_647 (fun _ _ _ h => nomatch h) rfl) ?_
  refine mb_l_cons (ms_istore dL_law_650 rfl) ?_
  refine mb_l_cons (ms_aload_n dL_law_652 rfl rfl) ?_
  refine mb_l_cons (ms_callv (ci := 8) hX (y := 85) (y0 := yX8_thrown) (bytes := cX8_thrown) rfl (C := RX8) (T := TX8) (N := 26) rfl mq_L_96_X8_thrown mw_833 mw_834 mw_835 dL_law_653 (fun _ _ _ h => nomatch h) rfl) ?_
  refine mb_l_cons (ms_iload dL_law_656 rfl) ?_
  refine mb_l_cons (ms_icmp_eq dL_law_658 rfl rfl) ?_
  refine mb_l_cons (ms_iconst dL_law_661 rfl rfl) ?_
  refine mb_l_cons (ms_zret dL_law_662 rfl) ?_
  refine mb_l_cons (ms_iload dL_law_663 rfl) ?_
  refine mb_l_cons (ms_if_ne dL_law_665 rfl rfl) ?_
  refine mb_l_cons (ms_aload_n dL_law_668 rfl rfl) ?_
  refine mb_l_cons (ms_iconst dL_law_669 rfl rfl) ?_
  refine mb_l_cons (ms_lald hX dL_law_670 rfl) ?_
  refine mb_l_cons (ms_iload dL_law_671 rfl) ?_
  refine mb_l_cons (ms_i2l dL_law_673 rfl) ?_
  refine mb_l_cons (ms_lcmp dL_law_674 rfl) ?_
  refine mb_l_cons (ms_if_eq dL_law_675 rfl rfl) ?_
  refine mb_l_cons (ms_iconst dL_law_678 rfl rfl) ?_
  refine mb_l_cons (ms_zret dL_law_679 rfl) ?_
  refine mb_l_cons (ms_goto dL_law_680 rfl) ?_
  refine mb_l_cons (ms_aload_n dL_law_683 rfl rfl) ?_
  refine mb_l_cons (ms_aload_n dL_law_684 rfl rfl) ?_
  refine mb_l_cons (ms_iload dL_law_685 rfl) ?_
  refine mb_l_cons (ms_iconst dL_law_687 rfl rfl) ?_
  refine mb_l_cons (ms_iadd dL_law_688 rfl) ?_
  refine mb_l_cons (ms_iald hX dL_law_689 rfl) ?_
  refine mb_l_cons (ms_aload_n dL_law_690 rfl rfl) ?_
  refine mb_l_cons (ms_iload dL_law_691 rfl) ?_
  refine mb_l_cons (ms_iconst dL_law_693 rfl rfl) ?_
  refine mb_l_cons (ms_iadd dL_law_694 rfl) ?_
  refine mb_l_cons (ms_iald hX dL_law_695 rfl) ?_
  refine mb_l_cons (ms_aload_n dL_law_696 rfl rfl) ?_
  refine mb_l_cons (ms_callsw hX (y := 147) (y0 := yL_ofAsset) (bytes := cL_ofAsset) rfl mq_L_122_L_ofAsset mw_431 mw_432 dL_law_697 rfl) ?_
  refine mb_l_cons (ms_istore dL_law_700 rfl) ?_
  refine mb_l_cons (ms_aload_n dL_law_702 rfl rfl) ?_
  refine mb_l_cons (ms_aload_n dL_law_703 rfl rfl) ?_
  refine mb_l_cons (ms_iload dL_law_704 rfl) ?_
  refine mb_l_cons (ms_iconst dL_law_706 rfl rfl) ?_
  refine mb_l_cons (ms_iadd dL_law_707 rfl) ?_
  refine mb_l_cons (ms_iald hX dL_law_708 rfl) ?_
  refine mb_l_cons (ms_aload_n dL_law_709 rfl rfl) ?_
  refine mb_l_cons (ms_iload dL_law_710 rfl) ?_
  refine mb_l_cons (ms_iconst dL_law_712 rfl rfl) ?_
  refine mb_l_cons (ms_iadd dL_law_713 rfl) ?_
  refine mb_l_cons (ms_iald hX dL_law_714 rfl) ?_
  refine mb_l_cons (ms_callv (ci := 8) hX (y := 110) (y0 := yX8_ofAsset) (bytes := cX8_ofAsset) rfl (C := RX8) (T := TX8) (N := 26) rfl mq_L_124_X8_ofAsset mw_918 mw_919 mw_920 dL_law_715 (fun _ _ _ h => nomatch h) rfl) ?_
  refine mb_l_cons (ms_istore dL_law_718 rfl) ?_
  refine mb_l_cons (ms_aload_n dL_law_720 rfl rfl) ?_
  refine mb_l_cons (ms_callv (ci := 8) hX (y := 85) (y0 := yX8_thrown) (bytes := cX8_thrown) rfl (C := RX8) (T := TX8) (N := 26) rfl mq_L_96_X8_thrown mw_833 mw_834 mw_835 dL_law_721 (fun _ _ _ h => nomatch h) rfl) ?_
  refine mb_l_cons (ms_iload dL_law_724 rfl) ?_
  refine mb_l_cons (ms_icmp_eq dL_law_726 rfl rfl) ?_
  refine mb_l_cons (ms_iconst dL_law_729 rfl rfl) ?_
  refine mb_l_cons (ms_zret dL_law_730 rfl) ?_
  refine mb_l_cons (ms_iload dL_law_731 rfl) ?_
  refine mb_l_cons (ms_if_ne dL_law_733 rfl rfl) ?_
  refine mb_l_cons (ms_aload_n dL_law_736 rfl rfl) ?_
  refine mb_l_cons (ms_iconst dL_law_737 rfl rfl) ?_
  refine mb_l_cons (ms_lald hX dL_law_738 rfl) ?_
  refine mb_l_cons (ms_iload dL_law_739 rfl) ?_
  refine mb_l_cons (ms_i2l dL_law_741 rfl) ?_
  refine mb_l_cons (ms_lcmp dL_law_742 rfl) ?_
  refine mb_l_cons (ms_if_eq dL_law_743 rfl rfl) ?_
  refine mb_l_cons (ms_iconst dL_law_746 rfl rfl) ?_
  refine mb_l_cons (ms_zret dL_law_747 rfl) ?_
  refine mb_l_cons (ms_goto dL_law_748 rfl) ?_
  refine mb_l_cons (ms_aload_n dL_law_751 rfl rfl) ?_
  refine mb_l_cons (ms_aload_n dL_law_752 rfl rfl) ?_
  refine mb_l_cons (ms_iload dL_law_753 rfl) ?_
  refine mb_l_cons (ms_iconst dL_law_755 rfl rfl) ?_
  refine mb_l_cons (ms_iadd dL_law_756 rfl) ?_
  refine mb_l_cons (ms_iald hX dL_law_757 rfl) ?_
  refine mb_l_cons (ms_aload_n dL_law_758 rfl rfl) ?_
  refine mb_l_cons (ms_callsw hX (y := 148) (y0 := yL_scene) (bytes := cL_scene) rfl mq_L_125_L_scene mw_451 mw_452 dL_law_759 rfl) ?_
  refine mb_l_cons (ms_istore dL_law_762 rfl) ?_
  refine mb_l_cons (ms_aload_n dL_law_764 rfl rfl) ?_
  refine mb_l_cons (ms_aload_n dL_law_765 rfl rfl) ?_
  refine mb_l_cons (ms_iload dL_law_766 rfl) ?_
  refine mb_l_cons (ms_iconst dL_law_768 rfl rfl) ?_
  refine mb_l_cons (ms_iadd dL_law_769 rfl) ?_
  refine mb_l_cons (ms_iald hX dL_law_770 rfl) ?_
  refine mb_l_cons (ms_callv (ci := 8) hX (y := 111) (y0 := yX8_scene) (bytes := cX8_scene) rfl (C := RX8) (T := TX8) (N := 26) rfl mq_L_127_X8_scene mw_926 mw_927 mw_928 dL_law_771 (fun _ _ _ h => nomatch h) rfl) ?_
  refine mb_l_cons (ms_istore dL_law_774 rfl) ?_
  refine mb_l_cons (ms_aload_n dL_law_776 rfl rfl) ?_
  refine mb_l_cons (ms_callv (ci := 8) hX (y := 85) (y0 := yX8_thrown) (bytes := cX8_thrown) rfl (C := RX8) (T := TX8) (N := 26) rfl mq_L_96_X8_thrown mw_833 mw_834 mw_835 dL_law_777 (fun _ _ _ h => nomatch h) rfl) ?_
  refine mb_l_cons (ms_iload dL_law_780 rfl) ?_
  refine mb_l_cons (ms_icmp_eq dL_law_782 rfl rfl) ?_
  refine mb_l_cons (ms_iconst dL_law_785 rfl rfl) ?_
  refine mb_l_cons (ms_zret dL_law_786 rfl) ?_
  refine mb_l_cons (ms_iload dL_law_787 rfl) ?_
  refine mb_l_cons (ms_if_ne dL_law_789 rfl rfl) ?_
  refine mb_l_cons (ms_aload_n dL_law_792 rfl rfl) ?_
  refine mb_l_cons (ms_iconst dL_law_793 rfl rfl) ?_
  refine mb_l_cons (ms_lald hX dL_law_794 rfl) ?_
  refine mb_l_cons (ms_iload dL_law_795 rfl) ?_
  refine mb_l_cons (ms_i2l dL_law_797 rfl) ?_
  refine mb_l_cons (ms_lcmp dL_law_798 rfl) ?_
  refine mb_l_cons (ms_if_eq dL_law_799 rfl rfl) ?_
  refine mb_l_cons (ms_iconst dL_law_802 rfl rfl) ?_
  refine mb_l_cons (ms_zret dL_law_803 rfl) ?_
  refine mb_l_cons (ms_goto dL_law_804 rfl) ?_
  refine mb_l_cons (ms_aload_n dL_law_807 rfl rfl) ?_
  refine mb_l_cons (ms_aload_n dL_law_808 rfl rfl) ?_
  refine mb_l_cons (ms_iload dL_law_809 rfl) ?_
  refine mb_l_cons (ms_iconst dL_law_811 rfl rfl) ?_
  refine mb_l_cons (ms_iadd dL_law_812 rfl) ?_
  refine mb_l_cons (ms_iald hX dL_law_813 rfl) ?_
  refine mb_l_cons (ms_aload_n dL_law_814 rfl rfl) ?_
  refine mb_l_cons (ms_iload dL_law_815 rfl) ?_
  refine mb_l_cons (ms_iconst dL_law_817 rfl rfl) ?_
  refine mb_l_cons (ms_iadd dL_law_818 rfl) ?_
  refine mb_l_cons (ms_iald hX dL_law_819 rfl) ?_
  refine mb_l_cons (ms_aload_n dL_law_820 rfl rfl) ?_
  refine mb_l_cons (ms_iload dL_law_821 rfl) ?_
  refine mb_l_cons (ms_iconst dL_law_823 rfl rfl) ?_
  refine mb_l_cons (ms_iadd dL_law_824 rfl) ?_
  refine mb_l_cons (ms_iald hX dL_law_825 rfl) ?_
  refine mb_l_cons (ms_aload_n dL_law_826 rfl rfl) ?_
  refine mb_l_cons (ms_iload dL_law_827 rfl) ?_
  refine mb_l_cons (ms_iconst dL_law_829 rfl rfl) ?_
  refine mb_l_cons (ms_iadd dL_law_830 rfl) ?_
  refine mb_l_cons (ms_iald hX dL_law_831 rfl) ?_
  refine mb_l_cons (ms_aload_n dL_law_832 rfl rfl) ?_
  refine mb_l_cons (ms_iload dL_law_833 rfl) ?_
  refine mb_l_cons (ms_iconst dL_law_835 rfl rfl) ?_
  refine mb_l_cons (ms_iadd dL_law_836 rfl) ?_
  refine mb_l_cons (ms_iald hX dL_law_837 rfl) ?_
  refine mb_l_cons (ms_aload_n dL_law_838 rfl rfl) ?_
  refine mb_l_cons (ms_callsw hX (y := 149) (y0 := yL_cast) (bytes := cL_cast) rfl mq_L_128_L_cast mw_500 mw_501 dL_law_839 rfl) ?_
  refine mb_l_cons (ms_istore dL_law_842 rfl) ?_
  refine mb_l_cons (ms_aload_n dL_law_844 rfl rfl) ?_
  refine mb_l_cons (ms_aload_n dL_law_845 rfl rfl) ?_
  refine mb_l_cons (ms_iload dL_law_846 rfl) ?_
  refine mb_l_cons (ms_iconst dL_law_848 rfl rfl) ?_
  refine mb_l_cons (ms_iadd dL_law_849 rfl) ?_
  refine mb_l_cons (ms_iald hX dL_law_850 rfl) ?_
  refine mb_l_cons (ms_aload_n dL_law_851 rfl rfl) ?_
  refine mb_l_cons (ms_iload dL_law_852 rfl) ?_
  refine mb_l_cons (ms_iconst dL_law_854 rfl rfl) ?_
  refine mb_l_cons (ms_iadd dL_law_855 rfl) ?_
  refine mb_l_cons (ms_iald hX dL_law_856 rfl) ?_
  refine mb_l_cons (ms_aload_n dL_law_857 rfl rfl) ?_
  refine mb_l_cons (ms_iload dL_law_858 rfl) ?_
  refine mb_l_cons (ms_iconst dL_law_860 rfl rfl) ?_
  refine mb_l_cons (ms_iadd dL_law_861 rfl) ?_
  refine mb_l_cons (ms_iald hX dL_law_862 rfl) ?_
  refine mb_l_cons (ms_aload_n dL_law_863 rfl rfl) ?_
  refine mb_l_cons (ms_iload dL_law_864 rfl) ?_
  refine mb_l_cons (ms_iconst dL_law_866 rfl rfl) ?_
  refine mb_l_cons (ms_iadd dL_law_867 rfl) ?_
  refine mb_l_cons (ms_iald hX dL_law_868 rfl) ?_
  refine mb_l_cons (ms_aload_n dL_law_869 rfl rfl) ?_
  refine mb_l_cons (ms_iload dL_law_870 rfl) ?_
  refine mb_l_cons (ms_iconst dL_law_872 rfl rfl) ?_
  refine mb_l_cons (ms_iadd dL_law_873 rfl) ?_
  refine mb_l_cons (ms_iald hX dL_law_874 rfl) ?_
  refine mb_l_cons (ms_callv (ci := 8) hX (y := 112) (y0 := yX8_cast) (bytes := cX8_cast) rfl (C := RX8) (T := TX8) (N := 26) rfl mq_L_130_X8_cast mw_930 mw_931 mw_932 dL_law_875 (fun _ _ _ h => nomatch h) rfl) ?_
  refine mb_l_cons (ms_istore dL_law_878 rfl) ?_
  refine mb_l_cons (ms_aload_n dL_law_880 rfl rfl) ?_
  refine mb_l_cons (ms_callv (ci := 8) hX (y := 85) (y0 := yX8_thrown) (bytes := cX8_thrown) rfl (C := RX8) (T := TX8) (N := 26) rfl mq_L_96_X8_thrown mw_833 mw_834 mw_835 dL_law_881 (fun _ _ _ h => nomatch h) rfl) ?_
  refine mb_l_cons (ms_iload dL_law_884 rfl) ?_
  refine mb_l_cons (ms_icmp_eq dL_law_886 rfl rfl) ?_
  refine mb_l_cons (ms_iconst dL_law_889 rfl rfl) ?_
  refine mb_l_cons (ms_zret dL_law_890 rfl) ?_
  refine mb_l_cons (ms_iload dL_law_891 rfl) ?_
  refine mb_l_cons (ms_if_ne dL_law_893 rfl rfl) ?_
  refine mb_l_cons (ms_aload_n dL_law_896 rfl rfl) ?_
  refine mb_l_cons (ms_iconst dL_law_897 rfl rfl) ?_
  refine mb_l_cons (ms_lald hX dL_law_898 rfl) ?_
  refine mb_l_cons (ms_iload dL_law_899 rfl) ?_
  refine mb_l_cons (ms_i2l dL_law_901 rfl) ?_
  refine mb_l_cons (ms_lcmp dL_law_902 rfl) ?_
  refine mb_l_cons (ms_if_eq dL_law_903 rfl rfl) ?_
  refine mb_l_cons (ms_iconst dL_law_906 rfl rfl) ?_
  refine mb_l_cons (ms_zret dL_law_907 rfl) ?_
  refine mb_l_cons (ms_goto dL_law_908 rfl) ?_
  refine mb_l_cons (ms_aload_n dL_law_911 rfl rfl) ?_
  refine mb_l_cons (ms_aload_n dL_law_912 rfl rfl) ?_
  refine mb_l_cons (ms_iload dL_law_913 rfl) ?_
  refine mb_l_cons (ms_iconst dL_law_915 rfl rfl) ?_
  refine mb_l_cons (ms_iadd dL_law_916 rfl) ?_
  refine mb_l_cons (ms_iald hX dL_law_917 rfl) ?_
  refine mb_l_cons (ms_aload_n dL_law_918 rfl rfl) ?_
  refine mb_l_cons (ms_iload dL_law_919 rfl) ?_
  refine mb_l_cons (ms_iconst dL_law_921 rfl rfl) ?_
  refine mb_l_cons (ms_iadd dL_law_922 rfl) ?_
  refine mb_l_cons (ms_iald hX dL_law_923 rfl) ?_
  refine mb_l_cons (ms_aload_n dL_law_924 rfl rfl) ?_
  refine mb_l_cons (ms_iload dL_law_925 rfl) ?_
  refine mb_l_cons (ms_iconst dL_law_927 rfl rfl) ?_
  refine mb_l_cons (ms_iadd dL_law_928 rfl) ?_
  refine mb_l_cons (ms_iald hX dL_law_929 rfl) ?_
  refine mb_l_cons (ms_aload_n dL_law_930 rfl rfl) ?_
  refine mb_l_cons (ms_callsw hX (y := 150) (y0 := yL_cut) (bytes := cL_cut) rfl mq_L_131_L_cut mw_532 mw_533 dL_law_931 rfl) ?_
  refine mb_l_cons (ms_istore dL_law_934 rfl) ?_
  refine mb_l_cons (ms_aload_n dL_law_936 rfl rfl) ?_
  refine mb_l_cons (ms_aload_n dL_law_937 rfl rfl) ?_
  refine mb_l_cons (ms_iload dL_law_938 rfl) ?_
  refine mb_l_cons (ms_iconst dL_law_940 rfl rfl) ?_
  refine mb_l_cons (ms_iadd dL_law_941 rfl) ?_
  refine mb_l_cons (ms_iald hX dL_law_942 rfl) ?_
  refine mb_l_cons (ms_aload_n dL_law_943 rfl rfl) ?_
  refine mb_l_cons (ms_iload dL_law_944 rfl) ?_
  refine mb_l_cons (ms_iconst dL_law_946 rfl rfl) ?_
  refine mb_l_cons (ms_iadd dL_law_947 rfl) ?_
  refine mb_l_cons (ms_iald hX dL_law_948 rfl) ?_
  refine mb_l_cons (ms_aload_n dL_law_949 rfl rfl) ?_
  refine mb_l_cons (ms_iload dL_law_950 rfl) ?_
  refine mb_l_cons (ms_iconst dL_law_952 rfl rfl) ?_
  refine mb_l_cons (ms_iadd dL_law_953 rfl) ?_
  refine mb_l_cons (ms_iald hX dL_law_954 rfl) ?_
  refine mb_l_cons (ms_callv (ci := 8) hX (y := 115) (y0 := yX8_cut) (bytes := cX8_cut) rfl (C := RX8) (T := TX8) (N := 26) rfl mq_L_133_X8_cut mw_938 mw_939 mw_940 dL_law_955 (fun _ _ _ h => nomatch h) rfl) ?_
  refine mb_l_cons (ms_istore dL_law_958 rfl) ?_
  refine mb_l_cons (ms_aload_n dL_law_960 rfl rfl) ?_
  refine mb_l_cons (ms_callv (ci := 8) hX (y := 85) (y0 := yX8_thrown) (bytes := cX8_thrown) rfl (C := RX8) (T := TX8) (N := 26) rfl mq_L_96_X8_thrown mw_833 mw_834 mw_835 dL_law_961 (fun _ _ _ h => nomatch h) rfl) ?_
  refine mb_l_cons (ms_iload dL_law_964 rfl) ?_
  refine mb_l_cons (ms_icmp_eq dL_law_966 rfl rfl) ?_
  refine mb_l_cons (ms_iconst dL_law_969 rfl rfl) ?_
  refine mb_l_cons (ms_zret dL_law_970 rfl) ?_
  refine mb_l_cons (ms_iload dL_law_971 rfl) ?_
  refine mb_l_cons (ms_if_ne dL_law_973 rfl rfl) ?_
  refine mb_l_cons (ms_aload_n dL_law_976 rfl rfl) ?_
  refine mb_l_cons (ms_iconst dL_law_977 rfl rfl) ?_
  refine mb_l_cons (ms_lald hX dL_law_978 rfl) ?_
  refine mb_l_cons (ms_iload dL_law_979 rfl) ?_
  refine mb_l_cons (ms_i2l dL_law_981 rfl) ?_
  refine mb_l_cons (ms_lcmp dL_law_982 rfl) ?_
  refine mb_l_cons (ms_if_eq dL_law_983 rfl rfl) ?_
  refine mb_l_cons (ms_iconst dL_law_986 rfl rfl) ?_
  refine mb_l_cons (ms_zret dL_law_987 rfl) ?_
  refine mb_l_cons (ms_goto dL_law_988 rfl) ?_
  refine mb_l_cons (ms_aload_n dL_law_991 rfl rfl) ?_
  refine mb_l_cons (ms_aload_n dL_law_992 rfl rfl) ?_
  refine mb_l_cons (ms_iload dL_law_993 rfl) ?_
  refine mb_l_cons (ms_iconst dL_law_995 rfl rfl) ?_
  refine mb_l_cons (ms_iadd dL_law_996 rfl) ?_
  refine mb_l_cons (ms_iald hX dL_law_997 rfl) ?_
  refine mb_l_cons (ms_aload_n dL_law_998 rfl rfl) ?_
  refine mb_l_cons (ms_iload dL_law_999 rfl) ?_
  refine mb_l_cons (ms_iconst dL_law_1001 rfl rfl) ?_
  refine mb_l_cons (ms_iadd dL_law_1002 rfl) ?_
  refine mb_l_cons (ms_iald hX dL_law_1003 rfl) ?_
  refine mb_l_cons (ms_aload_n dL_law_1004 rfl rfl) ?_
  refine mb_l_cons (ms_callsw hX (y := 151) (y0 := yL_note) (bytes := cL_note) rfl mq_L_134_L_note mw_563 mw_564 dL_law_1005 rfl) ?_
  refine mb_l_cons (ms_istore dL_law_1008 rfl) ?_
  refine mb_l_cons (ms_aload_n dL_law_1010 rfl rfl) ?_
  refine mb_l_cons (ms_aload_n dL_law_1011 rfl rfl) ?_
  refine mb_l_cons (ms_iload dL_law_1012 rfl) ?_
  refine mb_l_cons (ms_iconst dL_law_1014 rfl rfl) ?_
  refine mb_l_cons (ms_iadd dL_law_1015 rfl) ?_
  refine mb_l_cons (ms_iald hX dL_law_1016 rfl) ?_
  refine mb_l_cons (ms_aload_n dL_law_1017 rfl rfl) ?_
  refine mb_l_cons (ms_iload dL_law_1018 rfl) ?_
  refine mb_l_cons (ms_iconst dL_law_1020 rfl rfl) ?_
  refine mb_l_cons (ms_iadd dL_law_1021 rfl) ?_
  refine mb_l_cons (ms_iald hX dL_law_1022 rfl) ?_
  refine mb_l_cons (ms_callv (ci := 8) hX (y := 116) (y0 := yX8_note) (bytes := cX8_note) rfl (C := RX8) (T := TX8) (N := 26) rfl mq_L_136_X8_note mw_954 mw_955 mw_956 dL_law_1023 (fun _ _ _ h => nomatch h) rfl) ?_
  refine mb_l_cons (ms_istore dL_law_1026 rfl) ?_
  refine mb_l_cons (ms_aload_n dL_law_1028 rfl rfl) ?_
  refine mb_l_cons (ms_callv (ci := 8) hX (y := 85) (y0 := yX8_thrown) (bytes := cX8_thrown) rfl (C := RX8) (T := TX8) (N := 26) rfl mq_L_96_X8_thrown mw_833 mw_834 mw_835 dL_law_1029 (fun _ _ _ h => nomatch h) rfl) ?_
  refine mb_l_cons (ms_iload dL_law_1032 rfl) ?_
  refine mb_l_cons (ms_icmp_eq dL_law_1034 rfl rfl) ?_
  refine mb_l_cons (ms_iconst dL_law_1037 rfl rfl) ?_
  refine mb_l_cons (ms_zret dL_law_1038 rfl) ?_
  refine mb_l_cons (ms_iload dL_law_1039 rfl) ?_
  refine mb_l_cons (ms_if_ne dL_law_1041 rfl rfl) ?_
  refine mb_l_cons (ms_aload_n dL_law_1044 rfl rfl) ?_
  refine mb_l_cons (ms_iconst dL_law_1045 rfl rfl) ?_
  refine mb_l_cons (ms_lald hX dL_law_1046 rfl) ?_
  refine mb_l_cons (ms_iload dL_law_1047 rfl) ?_
  refine mb_l_cons (ms_i2l dL_law_1049 rfl) ?_
  refine mb_l_cons (ms_lcmp dL_law_1050 rfl) ?_
  refine mb_l_cons (ms_if_eq dL_law_1051 rfl rfl) ?_
  refine mb_l_cons (ms_iconst dL_law_1054 rfl rfl) ?_
  refine mb_l_cons (ms_zret dL_law_1055 rfl) ?_
  refine mb_l_cons (ms_goto dL_law_1056 rfl) ?_
  refine mb_l_cons (ms_aload_n dL_law_1059 rfl rfl) ?_
  refine mb_l_cons (ms_aload_n dL_law_1060 rfl rfl) ?_
  refine mb_l_cons (ms_iload dL_law_1061 rfl) ?_
  refine mb_l_cons (ms_iconst dL_law_1063 rfl rfl) ?_
  refine mb_l_cons (ms_iadd dL_law_1064 rfl) ?_
  refine mb_l_cons (ms_iald hX dL_law_1065 rfl) ?_
  refine mb_l_cons (ms_aload_n dL_law_1066 rfl rfl) ?_
  refine mb_l_cons (ms_callsw hX (y := 152) (y0 := yL_settle) (bytes := cL_settle) rfl mq_L_137_L_settle mw_592 mw_593 dL_law_1067 rfl) ?_
  refine mb_l_cons (ms_istore dL_law_1070 rfl) ?_
  refine mb_l_cons (ms_aload_n dL_law_1072 rfl rfl) ?_
  refine mb_l_cons (ms_aload_n dL_law_1073 rfl rfl) ?_
  refine mb_l_cons (ms_iload dL_law_1074 rfl) ?_
  refine mb_l_cons (ms_iconst dL_law_1076 rfl rfl) ?_
  refine mb_l_cons (ms_iadd dL_law_1077 rfl) ?_
  refine mb_l_cons (ms_iald hX dL_law_1078 rfl) ?_
  refine mb_l_cons (ms_callv (ci := 8) hX (y := 118) (y0 := yX8_settle) (bytes := cX8_settle) rfl (C := RX8) (T := TX8) (N := 26) rfl mq_L_139_X8_settle mw_958 mw_959 mw_960 dL_law_1079 (fun _ _ _ h => nomatch h) rfl) ?_
  refine mb_l_cons (ms_istore dL_law_1082 rfl) ?_
  refine mb_l_cons (ms_aload_n dL_law_1084 rfl rfl) ?_
  refine mb_l_cons (ms_callv (ci := 8) hX (y := 85) (y0 := yX8_thrown) (bytes := cX8_thrown) rfl (C := RX8) (T := TX8) (N := 26) rfl mq_L_96_X8_thrown mw_833 mw_834 mw_835 dL_law_1085 (fun _ _ _ h => nomatch h) rfl) ?_
  refine mb_l_cons (ms_iload dL_law_1088 rfl) ?_
  refine mb_l_cons (ms_icmp_eq dL_law_1090 rfl rfl) ?_
  refine mb_l_cons (ms_iconst dL_law_1093 rfl rfl) ?_
  refine mb_l_cons (ms_zret dL_law_1094 rfl) ?_
  refine mb_l_cons (ms_iload dL_law_1095 rfl) ?_
  refine mb_l_cons (ms_if_ne dL_law_1097 rfl rfl) ?_
  refine mb_l_cons (ms_aload_n dL_law_1100 rfl rfl) ?_
  refine mb_l_cons (ms_iconst dL_law_1101 rfl rfl) ?_
  refine mb_l_cons (ms_lald hX dL_law_1102 rfl) ?_
  refine mb_l_cons (ms_iload dL_law_1103 rfl) ?_
  refine mb_l_cons (ms_i2l dL_law_1105 rfl) ?_
  refine mb_l_cons (ms_lcmp dL_law_1106 rfl) ?_
  refine mb_l_cons (ms_if_eq dL_law_1107 rfl rfl) ?_
  refine mb_l_cons (ms_iconst dL_law_1110 rfl rfl) ?_
  refine mb_l_cons (ms_zret dL_law_1111 rfl) ?_
  refine mb_l_cons (ms_goto dL_law_1112 rfl) ?_
  refine mb_l_cons (ms_aload_n dL_law_1115 rfl rfl) ?_
  refine mb_l_cons (ms_aload_n dL_law_1116 rfl rfl) ?_
  refine mb_l_cons (ms_iload dL_law_1117 rfl) ?_
  refine mb_l_cons (ms_iconst dL_law_1119 rfl rfl) ?_
  refine mb_l_cons (ms_iadd dL_law_1120 rfl) ?_
  refine mb_l_cons (ms_iald hX dL_law_1121 rfl) ?_
  refine mb_l_cons (ms_aload_n dL_law_1122 rfl rfl) ?_
  refine mb_l_cons (ms_iload dL_law_1123 rfl) ?_
  refine mb_l_cons (ms_iconst dL_law_1125 rfl rfl) ?_
  refine mb_l_cons (ms_iadd dL_law_1126 rfl) ?_
  refine mb_l_cons (ms_iald hX dL_law_1127 rfl) ?_
  refine mb_l_cons (ms_aload_n dL_law_1128 rfl rfl) ?_
  refine mb_l_cons (ms_callsw hX (y := 153) (y0 := yL_ofNote) (bytes := cL_ofNote) rfl mq_L_140_L_ofNote mw_605 mw_606 dL_law_1129 rfl) ?_
  refine mb_l_cons (ms_istore dL_law_1132 rfl) ?_
  refine mb_l_cons (ms_aload_n dL_law_1134 rfl rfl) ?_
  refine mb_l_cons (ms_aload_n dL_law_1135 rfl rfl) ?_
  refine mb_l_cons (ms_iload dL_law_1136 rfl) ?_
  refine mb_l_cons (ms_iconst dL_law_1138 rfl rfl) ?_
  refine mb_l_cons (ms_iadd dL_law_1139 rfl) ?_
  refine mb_l_cons (ms_iald hX dL_law_1140 rfl) ?_
  refine mb_l_cons (ms_aload_n dL_law_1141 rfl rfl) ?_
  refine mb_l_cons (ms_iload dL_law_1142 rfl) ?_
  refine mb_l_cons (ms_iconst dL_law_1144 rfl rfl) ?_
  refine mb_l_cons (ms_iadd dL_law_1145 rfl) ?_
  refine mb_l_cons (ms_iald hX dL_law_1146 rfl) ?_
  refine mb_l_cons (ms_callv (ci := 8) hX (y := 119) (y0 := yX8_ofNote) (bytes := cX8_ofNote) rfl (C := RX8) (T := TX8) (N := 26) rfl mq_L_142_X8_ofNote mw_966 mw_967 mw_968 dL_law_1147 (fun _ _ _ h => nomatch h) rfl) ?_
  refine mb_l_cons (ms_istore dL_law_1150 rfl) ?_
  refine mb_l_cons (ms_aload_n dL_law_1152 rfl rfl) ?_
  refine mb_l_cons (ms_callv (ci := 8) hX (y := 85) (y0 := yX8_thrown) (bytes := cX8_thrown) rfl (C := RX8) (T := TX8) (N := 26) rfl mq_L_96_X8_thrown mw_833 mw_834 mw_835 dL_law_1153 (fun _ _ _ h => nomatch h) rfl) ?_
  refine mb_l_cons (ms_iload dL_law_1156 rfl) ?_
  refine mb_l_cons (ms_icmp_eq dL_law_1158 rfl rfl) ?_
  refine mb_l_cons (ms_iconst dL_law_1161 rfl rfl) ?_
  refine mb_l_cons (ms_zret dL_law_1162 rfl) ?_
  refine mb_l_cons (ms_iload dL_law_1163 rfl) ?_
  refine mb_l_cons (ms_if_ne dL_law_1165 rfl rfl) ?_
  refine mb_l_cons (ms_aload_n dL_law_1168 rfl rfl) ?_
  refine mb_l_cons (ms_iconst dL_law_1169 rfl rfl) ?_
  refine mb_l_cons (ms_lald hX dL_law_1170 rfl) ?_
  refine mb_l_cons (ms_iload dL_law_1171 rfl) ?_
  refine mb_l_cons (ms_i2l dL_law_1173 rfl) ?_
  refine mb_l_cons (ms_lcmp dL_law_1174 rfl) ?_
  refine mb_l_cons (ms_if_eq dL_law_1175 rfl rfl) ?_
  refine mb_l_cons (ms_iconst dL_law_1178 rfl rfl) ?_
  refine mb_l_cons (ms_zret dL_law_1179 rfl) ?_
  refine mb_l_cons (ms_goto dL_law_1180 rfl) ?_
  refine mb_l_cons (ms_aload_n dL_law_1183 rfl rfl) ?_
  refine mb_l_cons (ms_aload_n dL_law_1184 rfl rfl) ?_
  refine mb_l_cons (ms_iload dL_law_1185 rfl) ?_
  refine mb_l_cons (ms_iconst dL_law_1187 rfl rfl) ?_
  refine mb_l_cons (ms_iadd dL_law_1188 rfl) ?_
  refine mb_l_cons (ms_iald hX dL_law_1189 rfl) ?_
  refine mb_l_cons (ms_aload_n dL_law_1190 rfl rfl) ?_
  refine mb_l_cons (ms_callsw hX (y := 154) (y0 := yL_render) (bytes := cL_render) rfl mq_L_143_L_render mw_612 mw_613 dL_law_1191 rfl) ?_
  refine mb_l_cons (ms_istore dL_law_1194 rfl) ?_
  refine mb_l_cons (ms_aload_n dL_law_1196 rfl rfl) ?_
  refine mb_l_cons (ms_aload_n dL_law_1197 rfl rfl) ?_
  refine mb_l_cons (ms_iload dL_law_1198 rfl) ?_
  refine mb_l_cons (ms_iconst dL_law_1200 rfl rfl) ?_
  refine mb_l_cons (ms_iadd dL_law_1201 rfl) ?_
  refine mb_l_cons (ms_iald hX dL_law_1202 rfl) ?_
  refine mb_l_cons (ms_callv (ci := 8) hX (y := 126) (y0 := yX8_render) (bytes := cX8_render) rfl (C := RX8) (T := TX8) (N := 26) rfl mq_L_145_X8_render mw_970 mw_971 mw_972 dL_law_1203 (fun _ _ _ h => nomatch h) rfl) ?_
  refine mb_l_cons (ms_istore dL_law_1206 rfl) ?_
  refine mb_l_cons (ms_aload_n dL_law_1208 rfl rfl) ?_
  refine mb_l_cons (ms_callv (ci := 8) hX (y := 85) (y0 := yX8_thrown) (bytes := cX8_thrown) rfl (C := RX8) (T := TX8) (N := 26) rfl mq_L_96_X8_thrown mw_833 mw_834 mw_835 dL_law_1209 (fun _ _ _ h => nomatch h) rfl) ?_
  refine mb_l_cons (ms_iload dL_law_1212 rfl) ?_
  refine mb_l_cons (ms_icmp_eq dL_law_1214 rfl rfl) ?_
  refine mb_l_cons (ms_iconst dL_law_1217 rfl rfl) ?_
  refine mb_l_cons (ms_zret dL_law_1218 rfl) ?_
  refine mb_l_cons (ms_iload dL_law_1219 rfl) ?_
  refine mb_l_cons (ms_if_ne dL_law_1221 rfl rfl) ?_
  refine mb_l_cons (ms_aload_n dL_law_1224 rfl rfl) ?_
  refine mb_l_cons (ms_iconst dL_law_1225 rfl rfl) ?_
  refine mb_l_cons (ms_lald hX dL_law_1226 rfl) ?_
  refine mb_l_cons (ms_iload dL_law_1227 rfl) ?_
  refine mb_l_cons (ms_i2l dL_law_1229 rfl) ?_
  refine mb_l_cons (ms_lcmp dL_law_1230 rfl) ?_
  refine mb_l_cons (ms_if_eq dL_law_1231 rfl rfl) ?_
  refine mb_l_cons (ms_iconst dL_law_1234 rfl rfl) ?_
  refine mb_l_cons (ms_zret dL_law_1235 rfl) ?_
  refine mb_l_cons (ms_goto dL_law_1236 rfl) ?_
  refine mb_l_cons (ms_aload_n dL_law_1239 rfl rfl) ?_
  refine mb_l_cons (ms_aload_n dL_law_1240 rfl rfl) ?_
  refine mb_l_cons (ms_iload dL_law_1241 rfl) ?_
  refine mb_l_cons (ms_iconst dL_law_1243 rfl rfl) ?_
  refine mb_l_cons (ms_iadd dL_law_1244 rfl) ?_
  refine mb_l_cons (ms_iald hX dL_law_1245 rfl) ?_
  refine mb_l_cons (ms_aload_n dL_law_1246 rfl rfl) ?_
  refine mb_l_cons (ms_iload dL_law_1247 rfl) ?_
  refine mb_l_cons (ms_iconst dL_law_1249 rfl rfl) ?_
  refine mb_l_cons (ms_iadd dL_law_1250 rfl) ?_
  refine mb_l_cons (ms_iald hX dL_law_1251 rfl) ?_
  refine mb_l_cons (ms_aload_n dL_law_1252 rfl rfl) ?_
  refine mb_l_cons (ms_callsw hX (y := 155) (y0 := yL_renderOne) (bytes := cL_renderOne) rfl mq_L_146_L_renderOne mw_661 mw_662 dL_law_1253 rfl) ?_
  refine mb_l_cons (ms_istore dL_law_1256 rfl) ?_
  refine mb_l_cons (ms_aload_n dL_law_1258 rfl rfl) ?_
  refine mb_l_cons (ms_aload_n dL_law_1259 rfl rfl) ?_
  refine mb_l_cons (ms_iload dL_law_1260 rfl) ?_
  refine mb_l_cons (ms_iconst dL_law_1262 rfl rfl) ?_
  refine mb_l_cons (ms_iadd dL_law_1263 rfl) ?_
  refine mb_l_cons (ms_iald hX dL_law_1264 rfl) ?_
  refine mb_l_cons (ms_aload_n dL_law_1265 rfl rfl) ?_
  refine mb_l_cons (ms_iload dL_law_1266 rfl) ?_
  refine mb_l_cons (ms_iconst dL_law_1268 rfl rfl) ?_
  refine mb_l_cons (ms_iadd dL_law_1269 rfl) ?_
  refine mb_l_cons (ms_iald hX dL_law_1270 rfl) ?_
  refine mb_l_cons (ms_callv (ci := 8) hX (y := 127) (y0 := yX8_renderOne) (bytes := cX8_renderOne) rfl (C := RX8) (T := TX8) (N := 26) rfl mq_L_148_X8_renderOne mw_998 mw_999 mw_1000 dL_law_1271 (fun _ _ _ h => nomatch h) rfl) ?_
  refine mb_l_cons (ms_istore dL_law_1274 rfl) ?_
  refine mb_l_cons (ms_aload_n dL_law_1276 rfl rfl) ?_
  refine mb_l_cons (ms_callv (ci := 8) hX (y := 85) (y0 := yX8_thrown) (bytes := cX8_thrown) rfl (C := RX8) (T := TX8) (N := 26) rfl mq_L_96_X8_thrown mw_833 mw_834 mw_835 dL_law_1277 (fun _ _ _ h => nomatch h) rfl) ?_
  refine mb_l_cons (ms_iload dL_law_1280 rfl) ?_
  refine mb_l_cons (ms_icmp_eq dL_law_1282 rfl rfl) ?_
  refine mb_l_cons (ms_iconst dL_law_1285 rfl rfl) ?_
  refine mb_l_cons (ms_zret dL_law_1286 rfl) ?_
  refine mb_l_cons (ms_iload dL_law_1287 rfl) ?_
  refine mb_l_cons (ms_if_ne dL_law_1289 rfl rfl) ?_
  refine mb_l_cons (ms_aload_n dL_law_1292 rfl rfl) ?_
  refine mb_l_cons (ms_iconst dL_law_1293 rfl rfl) ?_
  refine mb_l_cons (ms_lald hX dL_law_1294 rfl) ?_
  refine mb_l_cons (ms_iload dL_law_1295 rfl) ?_
  refine mb_l_cons (ms_if_eq dL_law_1297 rfl rfl) ?_
  refine mb_l_cons (ms_lconst dL_law_1300 rfl rfl) ?_
  refine mb_l_cons (ms_goto dL_law_1301 rfl) ?_
  refine mb_l_cons (ms_lconst dL_law_1304 rfl rfl) ?_
  refine mb_l_cons (ms_lcmp dL_law_1305 rfl) ?_
  refine mb_l_cons (ms_if_eq dL_law_1306 rfl rfl) ?_
  refine mb_l_cons (ms_iconst dL_law_1309 rfl rfl) ?_
  refine mb_l_cons (ms_zret dL_law_1310 rfl) ?_
  refine mb_l_cons (ms_goto dL_law_1311 rfl) ?_
  refine mb_l_cons (ms_aload_n dL_law_1314 rfl rfl) ?_
  refine mb_l_cons (ms_aload_n dL_law_1315 rfl rfl) ?_
  refine mb_l_cons (ms_iload dL_law_1316 rfl) ?_
  refine mb_l_cons (ms_iconst dL_law_1318 rfl rfl) ?_
  refine mb_l_cons (ms_iadd dL_law_1319 rfl) ?_
  refine mb_l_cons (ms_iald hX dL_law_1320 rfl) ?_
  refine mb_l_cons (ms_aload_n dL_law_1321 rfl rfl) ?_
  refine mb_l_cons (ms_callsw hX (y := 156) (y0 := yL_needs) (bytes := cL_needs) rfl mq_L_149_L_needs mw_668 mw_669 dL_law_1322 rfl) ?_
  refine mb_l_cons (ms_istore dL_law_1325 rfl) ?_
  refine mb_l_cons (ms_aload_n dL_law_1327 rfl rfl) ?_
  refine mb_l_cons (ms_aload_n dL_law_1328 rfl rfl) ?_
  refine mb_l_cons (ms_iload dL_law_1329 rfl) ?_
  refine mb_l_cons (ms_iconst dL_law_1331 rfl rfl) ?_
  refine mb_l_cons (ms_iadd dL_law_1332 rfl) ?_
  refine mb_l_cons (ms_iald hX dL_law_1333 rfl) ?_
  refine mb_l_cons (ms_callv (ci := 8) hX (y := 129) (y0 := yX8_needs) (bytes := cX8_needs) rfl (C := RX8) (T := TX8) (N := 26) rfl mq_L_151_X8_needs mw_1002 mw_1003 mw_1004 dL_law_1334 (fun _ _ _ h => nomatch h) rfl) ?_
  refine mb_l_cons (ms_istore dL_law_1337 rfl) ?_
  refine mb_l_cons (ms_aload_n dL_law_1339 rfl rfl) ?_
  refine mb_l_cons (ms_callv (ci := 8) hX (y := 85) (y0 := yX8_thrown) (bytes := cX8_thrown) rfl (C := RX8) (T := TX8) (N := 26) rfl mq_L_96_X8_thrown mw_833 mw_834 mw_835 dL_law_1340 (fun _ _ _ h => nomatch h) rfl) ?_
  refine mb_l_cons (ms_iload dL_law_1343 rfl) ?_
  refine mb_l_cons (ms_icmp_eq dL_law_1345 rfl rfl) ?_
  refine mb_l_cons (ms_iconst dL_law_1348 rfl rfl) ?_
  refine mb_l_cons (ms_zret dL_law_1349 rfl) ?_
  refine mb_l_cons (ms_iload dL_law_1350 rfl) ?_
  refine mb_l_cons (ms_if_ne dL_law_1352 rfl rfl) ?_
  refine mb_l_cons (ms_aload_n dL_law_1355 rfl rfl) ?_
  refine mb_l_cons (ms_iconst dL_law_1356 rfl rfl) ?_
  refine mb_l_cons (ms_lald hX dL_law_1357 rfl) ?_
  refine mb_l_cons (ms_iload dL_law_1358 rfl) ?_
  refine mb_l_cons (ms_i2l dL_law_1360 rfl) ?_
  refine mb_l_cons (ms_lcmp dL_law_1361 rfl) ?_
  refine mb_l_cons (ms_if_eq dL_law_1362 rfl rfl) ?_
  refine mb_l_cons (ms_iconst dL_law_1365 rfl rfl) ?_
  refine mb_l_cons (ms_zret dL_law_1366 rfl) ?_
  refine mb_l_cons (ms_goto dL_law_1367 rfl) ?_
  refine mb_l_cons (ms_aload_n dL_law_1370 rfl rfl) ?_
  refine mb_l_cons (ms_aload_n dL_law_1371 rfl rfl) ?_
  refine mb_l_cons (ms_iload dL_law_1372 rfl) ?_
  refine mb_l_cons (ms_iconst dL_law_1374 rfl rfl) ?_
  refine mb_l_cons (ms_iadd dL_law_1375 rfl) ?_
  refine mb_l_cons (ms_iald hX dL_law_1376 rfl) ?_
  refine mb_l_cons (ms_aload_n dL_law_1377 rfl rfl) ?_
  refine mb_l_cons (ms_callsw hX (y := 157) (y0 := yL_mixes) (bytes := cL_mixes) rfl mq_L_152_L_mixes mw_679 mw_680 dL_law_1378 rfl) ?_
  refine mb_l_cons (ms_istore dL_law_1381 rfl) ?_
  refine mb_l_cons (ms_aload_n dL_law_1383 rfl rfl) ?_
  refine mb_l_cons (ms_aload_n dL_law_1384 rfl rfl) ?_
  refine mb_l_cons (ms_iload dL_law_1385 rfl) ?_
  refine mb_l_cons (ms_iconst dL_law_1387 rfl rfl) ?_
  refine mb_l_cons (ms_iadd dL_law_1388 rfl) ?_
  refine mb_l_cons (ms_iald hX dL_law_1389 rfl) ?_
  refine mb_l_cons (ms_callv (ci := 8) hX (y := 132) (y0 := yX8_mixes) (bytes := cX8_mixes) rfl (C := RX8) (T := TX8) (N := 26) rfl mq_L_154_X8_mixes mw_1010 mw_1011 mw_1012 dL_law_1390 (fun _ _ _ h => nomatch h) rfl) ?_
  refine mb_l_cons (ms_istore dL_law_1393 rfl) ?_
  refine mb_l_cons (ms_aload_n dL_law_1395 rfl rfl) ?_
  refine mb_l_cons (ms_callv (ci := 8) hX (y := 85) (y0 := yX8_thrown) (bytes := cX8_thrown) rfl (C := RX8) (T := TX8) (N := 26) rfl mq_L_96_X8_thrown mw_833 mw_834 mw_835 dL_law_1396 (fun _ _ _ h => nomatch h) rfl) ?_
  refine mb_l_cons (ms_iload dL_law_1399 rfl) ?_
  refine mb_l_cons (ms_icmp_eq dL_law_1401 rfl rfl) ?_
  refine mb_l_cons (ms_iconst dL_law_1404 rfl rfl) ?_
  refine mb_l_cons (ms_zret dL_law_1405 rfl) ?_
  refine mb_l_cons (ms_iload dL_law_1406 rfl) ?_
  refine mb_l_cons (ms_if_ne dL_law_1408 rfl rfl) ?_
  refine mb_l_cons (ms_aload_n dL_law_1411 rfl rfl) ?_
  refine mb_l_cons (ms_iconst dL_law_1412 rfl rfl) ?_
  refine mb_l_cons (ms_lald hX dL_law_1413 rfl) ?_
  refine mb_l_cons (ms_iload dL_law_1414 rfl) ?_
  refine mb_l_cons (ms_i2l dL_law_1416 rfl) ?_
  refine mb_l_cons (ms_lcmp dL_law_1417 rfl) ?_
  refine mb_l_cons (ms_if_eq dL_law_1418 rfl rfl) ?_
  refine mb_l_cons (ms_iconst dL_law_1421 rfl rfl) ?_
  refine mb_l_cons (ms_zret dL_law_1422 rfl) ?_
  refine mb_l_cons (ms_goto dL_law_1423 rfl) ?_
  refine mb_l_cons (ms_aload_n dL_law_1426 rfl rfl) ?_
  refine mb_l_cons (ms_aload_n dL_law_1427 rfl rfl) ?_
  refine mb_l_cons (ms_iload dL_law_1428 rfl) ?_
  refine mb_l_cons (ms_iconst dL_law_1430 rfl rfl) ?_
  refine mb_l_cons (ms_iadd dL_law_1431 rfl) ?_
  refine mb_l_cons (ms_iald hX dL_law_1432 rfl) ?_
  refine mb_l_cons (ms_aload_n dL_law_1433 rfl rfl) ?_
  refine mb_l_cons (ms_iload dL_law_1434 rfl) ?_
  refine mb_l_cons (ms_iconst dL_law_1436 rfl rfl) ?_
  refine mb_l_cons (ms_iadd dL_law_1437 rfl) ?_
  refine mb_l_cons (ms_iald hX dL_law_1438 rfl) ?_
  refine mb_l_cons (ms_aload_n dL_law_1439 rfl rfl) ?_
  refine mb_l_cons (ms_iload dL_law_1440 rfl) ?_
  refine mb_l_cons (ms_iconst dL_law_1442 rfl rfl) ?_
  refine mb_l_cons (ms_iadd dL_law_1443 rfl) ?_
  refine mb_l_cons (ms_iald hX dL_law_1444 rfl) ?_
  refine mb_l_cons (ms_aload_n dL_law_1445 rfl rfl) ?_
  refine mb_l_cons (ms_callsw hX (y := 158) (y0 := yL_ofFrame) (bytes := cL_ofFrame) rfl mq_L_155_L_ofFrame mw_697 mw_698 dL_law_1446 rfl) ?_
  refine mb_l_cons (ms_istore dL_law_1449 rfl) ?_
  refine mb_l_cons (ms_aload_n dL_law_1451 rfl rfl) ?_
  refine mb_l_cons (ms_aload_n dL_law_1452 rfl rfl) ?_
  refine mb_l_cons (ms_iload dL_law_1453 rfl) ?_
  refine mb_l_cons (ms_iconst dL_law_1455 rfl rfl) ?_
  refine mb_l_cons (ms_iadd dL_law_1456 rfl) ?_
  refine mb_l_cons (ms_iald hX dL_law_1457 rfl) ?_
  refine mb_l_cons (ms_aload_n dL_law_1458 rfl rfl) ?_
  refine mb_l_cons (ms_iload dL_law_1459 rfl) ?_
  refine mb_l_cons (ms_iconst dL_law_1461 rfl rfl) ?_
  refine mb_l_cons (ms_iadd dL_law_1462 rfl) ?_
  refine mb_l_cons (ms_iald hX dL_law_1463 rfl) ?_
  refine mb_l_cons (ms_aload_n dL_law_1464 rfl rfl) ?_
  refine mb_l_cons (ms_iload dL_law_1465 rfl) ?_
  refine mb_l_cons (ms_iconst dL_law_1467 rfl rfl) ?_
  refine mb_l_cons (ms_iadd dL_law_1468 rfl) ?_
  refine mb_l_cons (ms_iald hX dL_law_1469 rfl) ?_
  refine mb_l_cons (ms_callv (ci := 8) hX (y := 135) (y0 := yX8_ofFrame) (bytes := cX8_ofFrame) rfl (C := RX8) (T := TX8) (N := 26) rfl mq_L_157_X8_ofFrame mw_1022 mw_1023 mw_1024 dL_law_1470 (fun _ _ _ h => nomatch h) rfl) ?_
  refine mb_l_cons (ms_istore dL_law_1473 rfl) ?_
  refine mb_l_cons (ms_aload_n dL_law_1475 rfl rfl) ?_
  refine mb_l_cons (ms_callv (ci := 8) hX (y := 85) (y0 := yX8_thrown) (bytes := cX8_thrown) rfl (C := RX8) (T := TX8) (N := 26) rfl mq_L_96_X8_thrown mw_833 mw_834 mw_835 dL_law_1476 (fun _ _ _ h => nomatch h) rfl) ?_
  refine mb_l_cons (ms_iload dL_law_1479 rfl) ?_
  refine mb_l_cons (ms_icmp_eq dL_law_1481 rfl rfl) ?_
  refine mb_l_cons (ms_iconst dL_law_1484 rfl rfl) ?_
  refine mb_l_cons (ms_zret dL_law_1485 rfl) ?_
  refine mb_l_cons (ms_iload dL_law_1486 rfl) ?_
  refine mb_l_cons (ms_if_ne dL_law_1488 rfl rfl) ?_
  refine mb_l_cons (ms_aload_n dL_law_1491 rfl rfl) ?_
  refine mb_l_cons (ms_iconst dL_law_1492 rfl rfl) ?_
  refine mb_l_cons (ms_lald hX dL_law_1493 rfl) ?_
  refine mb_l_cons (ms_iload dL_law_1494 rfl) ?_
  refine mb_l_cons (ms_i2l dL_law_1496 rfl) ?_
  refine mb_l_cons (ms_lcmp dL_law_1497 rfl) ?_
  refine mb_l_cons (ms_if_eq dL_law_1498 rfl rfl) ?_
  refine mb_l_cons (ms_iconst dL_law_1501 rfl rfl) ?_
  refine mb_l_cons (ms_zret dL_law_1502 rfl) ?_
  refine mb_l_cons (ms_goto dL_law_1503 rfl) ?_
  refine mb_l_cons (ms_aload_n dL_law_1506 rfl rfl) ?_
  refine mb_l_cons (ms_aload_n dL_law_1507 rfl rfl) ?_
  refine mb_l_cons (ms_iload dL_law_1508 rfl) ?_
  refine mb_l_cons (ms_iconst dL_law_1510 rfl rfl) ?_
  refine mb_l_cons (ms_iadd dL_law_1511 rfl) ?_
  refine mb_l_cons (ms_iald hX dL_law_1512 rfl) ?_
  refine mb_l_cons (ms_aload_n dL_law_1513 rfl rfl) ?_
  refine mb_l_cons (ms_iload dL_law_1514 rfl) ?_
  refine mb_l_cons (ms_iconst dL_law_1516 rfl rfl) ?_
  refine mb_l_cons (ms_iadd dL_law_1517 rfl) ?_
  refine mb_l_cons (ms_iald hX dL_law_1518 rfl) ?_
  refine mb_l_cons (ms_aload_n dL_law_1519 rfl rfl) ?_
  refine mb_l_cons (ms_iload dL_law_1520 rfl) ?_
  refine mb_l_cons (ms_iconst dL_law_1522 rfl rfl) ?_
  refine mb_l_cons (ms_iadd dL_law_1523 rfl) ?_
  refine mb_l_cons (ms_iald hX dL_law_1524 rfl) ?_
  refine mb_l_cons (ms_aload_n dL_law_1525 rfl rfl) ?_
  refine mb_l_cons (ms_callsw hX (y := 159) (y0 := yL_kept) (bytes := cL_kept) rfl mq_L_158_L_kept mw_716 mw_717 dL_law_1526 rfl) ?_
  refine mb_l_cons (ms_istore dL_law_1529 rfl) ?_
  refine mb_l_cons (ms_aload_n dL_law_1531 rfl rfl) ?_
  refine mb_l_cons (ms_aload_n dL_law_1532 rfl rfl) ?_
  refine mb_l_cons (ms_iload dL_law_1533 rfl) ?_
  refine mb_l_cons (ms_iconst dL_law_1535 rfl rfl) ?_
  refine mb_l_cons (ms_iadd dL_law_1536 rfl) ?_
  refine mb_l_cons (ms_iald hX dL_law_1537 rfl) ?_
  refine mb_l_cons (ms_aload_n dL_law_1538 rfl rfl) ?_
  refine mb_l_cons (ms_iload dL_law_1539 rfl) ?_
  refine mb_l_cons (ms_iconst dL_law_1541 rfl rfl) ?_
  refine mb_l_cons (ms_iadd dL_law_1542 rfl) ?_
  refine mb_l_cons (ms_iald hX dL_law_1543 rfl) ?_
  refine mb_l_cons (ms_aload_n dL_law_1544 rfl rfl) ?_
  refine mb_l_cons (ms_iload dL_law_1545 rfl) ?_
  refine mb_l_cons (ms_iconst dL_law_1547 rfl rfl) ?_
  refine mb_l_cons (ms_iadd dL_law_1548 rfl) ?_
  refine mb_l_cons (ms_iald hX dL_law_1549 rfl) ?_
  refine mb_l_cons (ms_callv (ci := 8) hX (y := 136) (y0 := yX8_kept) (bytes := cX8_kept) rfl (C := RX8) (T := TX8) (N := 26) rfl mq_L_160_X8_kept mw_1034 mw_1035 mw_1036 dL_law_1550 (fun _ _ _ h => nomatch h) rfl) ?_
  refine mb_l_cons (ms_istore dL_law_1553 rfl) ?_
  refine mb_l_cons (ms_aload_n dL_law_1555 rfl rfl) ?_
  refine mb_l_cons (ms_callv (ci := 8) hX (y := 85) (y0 := yX8_thrown) (bytes := cX8_thrown) rfl (C := RX8) (T := TX8) (N := 26) rfl mq_L_96_X8_thrown mw_833 mw_834 mw_835 dL_law_1556 (fun _ _ _ h => nomatch h) rfl) ?_
  refine mb_l_cons (ms_iload dL_law_1559 rfl) ?_
  refine mb_l_cons (ms_icmp_eq dL_law_1561 rfl rfl) ?_
  refine mb_l_cons (ms_iconst dL_law_1564 rfl rfl) ?_
  refine mb_l_cons (ms_zret dL_law_1565 rfl) ?_
  refine mb_l_cons (ms_iload dL_law_1566 rfl) ?_
  refine mb_l_cons (ms_if_ne dL_law_1568 rfl rfl) ?_
  refine mb_l_cons (ms_aload_n dL_law_1571 rfl rfl) ?_
  refine mb_l_cons (ms_iconst dL_law_1572 rfl rfl) ?_
  refine mb_l_cons (ms_lald hX dL_law_1573 rfl) ?_
  refine mb_l_cons (ms_iload dL_law_1574 rfl) ?_
  refine mb_l_cons (ms_i2l dL_law_1576 rfl) ?_
  refine mb_l_cons (ms_lcmp dL_law_1577 rfl) ?_
  refine mb_l_cons (ms_if_eq dL_law_1578 rfl rfl) ?_
  refine mb_l_cons (ms_iconst dL_law_1581 rfl rfl) ?_
  refine mb_l_cons (ms_zret dL_law_1582 rfl) ?_
  refine mb_l_cons (ms_goto dL_law_1583 rfl) ?_
  refine mb_l_cons (ms_aload_n dL_law_1586 rfl rfl) ?_
  refine mb_l_cons (ms_aload_n dL_law_1587 rfl rfl) ?_
  refine mb_l_cons (ms_iload dL_law_1588 rfl) ?_
  refine mb_l_cons (ms_iconst dL_law_1590 rfl rfl) ?_
  refine mb_l_cons (ms_iadd dL_law_1591 rfl) ?_
  refine mb_l_cons (ms_iald hX dL_law_1592 rfl) ?_
  refine mb_l_cons (ms_aload_n dL_law_1593 rfl rfl) ?_
  refine mb_l_cons (ms_callsw hX (y := 160) (y0 := yL_count) (bytes := cL_count) rfl mq_L_161_L_count mw_724 mw_725 dL_law_1594 rfl) ?_
  refine mb_l_cons (ms_istore dL_law_1597 rfl) ?_
  refine mb_l_cons (ms_aload_n dL_law_1599 rfl rfl) ?_
  refine mb_l_cons (ms_aload_n dL_law_1600 rfl rfl) ?_
  refine mb_l_cons (ms_iload dL_law_1601 rfl) ?_
  refine mb_l_cons (ms_iconst dL_law_1603 rfl rfl) ?_
  refine mb_l_cons (ms_iadd dL_law_1604 rfl) ?_
  refine mb_l_cons (ms_iald hX dL_law_1605 rfl) ?_
  refine mb_l_cons (ms_callv (ci := 8) hX (y := 138) (y0 := yX8_count) (bytes := cX8_count) rfl (C := RX8) (T := TX8) (N := 26) rfl mq_L_163_X8_count mw_1038 mw_1039 mw_1040 dL_law_1606 (fun _ _ _ h => nomatch h) rfl) ?_
  refine mb_l_cons (ms_istore dL_law_1609 rfl) ?_
  refine mb_l_cons (ms_aload_n dL_law_1611 rfl rfl) ?_
  refine mb_l_cons (ms_callv (ci := 8) hX (y := 85) (y0 := yX8_thrown) (bytes := cX8_thrown) rfl (C := RX8) (T := TX8) (N := 26) rfl mq_L_96_X8_thrown mw_833 mw_834 mw_835 dL_law_1612 (fun _ _ _ h => nomatch h) rfl) ?_
  refine mb_l_cons (ms_iload dL_law_1615 rfl) ?_
  refine mb_l_cons (ms_icmp_eq dL_law_1617 rfl rfl) ?_
  refine mb_l_cons (ms_iconst dL_law_1620 rfl rfl) ?_
  refine mb_l_cons (ms_zret dL_law_1621 rfl) ?_
  refine mb_l_cons (ms_iload dL_law_1622 rfl) ?_
  refine mb_l_cons (ms_if_ne dL_law_1624 rfl rfl) ?_
  refine mb_l_cons (ms_aload_n dL_law_1627 rfl rfl) ?_
  refine mb_l_cons (ms_iconst dL_law_1628 rfl rfl) ?_
  refine mb_l_cons (ms_lald hX dL_law_1629 rfl) ?_
  refine mb_l_cons (ms_iload dL_law_1630 rfl) ?_
  refine mb_l_cons (ms_i2l dL_law_1632 rfl) ?_
  refine mb_l_cons (ms_lcmp dL_law_1633 rfl) ?_
  refine mb_l_cons (ms_if_eq dL_law_1634 rfl rfl) ?_
  refine mb_l_cons (ms_iconst dL_law_1637 rfl rfl) ?_
  refine mb_l_cons (ms_zret dL_law_1638 rfl) ?_
  refine mb_l_cons (ms_goto dL_law_1639 rfl) ?_
  refine mb_l_cons (ms_iinc dL_law_1642 rfl rfl) ?_
  refine mb_l_cons (ms_goto dL_law_1645 rfl) ?_
  refine mb_l_cons (ms_iconst dL_law_1648 rfl rfl) ?_
  refine mb_l_cons (ms_zret dL_law_1649 rfl) ?_
  exact mb_l_nil
end MBX
