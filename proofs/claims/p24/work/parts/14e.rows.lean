/-! every row of every method is sound -/
section MBX
variable {l : Launch} {D : va_G} {cT : Nat → ClassId} {s0 : State} {args0 : Array Value}
theorem mr_L_law (hX : mb_Fx l D cT s0 args0) : ∀ pc i, mb_look mc_L_law pc = some i → mb_Snd l D cT s0 mb_mt RL "law" cL_law 20 (some .boolean) [] pc i := by
  unfold mc_L_law
  refine mb_l_cons (ms_new (ci := 7) hX (C := RX7) (T := TX7) (N := 7) rfl mu_X7 tyX7 tyX7_ok mf_X7 rfl mw_37 mw_38 mw_22 dL_law_0 rfl) ?_
  refine mb_l_cons (ms_dup dL_law_3 rfl) ?_
  refine mb_l_cons (ms_calli hX (y := 40) (y0 := yX7_init) (bytes := cX7_init) rfl mq_L_81_X7_init rfl mw_39 mw_40 dL_law_4 rfl) ?_
  refine mb_l_cons (ms_astore_n dL_law_7 rfl rfl) ?_
  refine mb_l_cons (ms_bipush dL_law_8 rfl rfl) ?_
  refine mb_l_cons (ms_newi hX mw_172 dL_law_10 rfl) ?_
  refine mb_l_cons (ms_astore_n dL_law_12 rfl rfl) ?_
  refine mb_l_cons (ms_bipush dL_law_13 rfl rfl) ?_
  refine mb_l_cons (ms_newi hX mw_172 dL_law_15 rfl) ?_
  refine mb_l_cons (ms_astore_n dL_law_17 rfl rfl) ?_
  refine mb_l_cons (ms_iconst dL_law_18 rfl rfl) ?_
  refine mb_l_cons (ms_newi hX mw_172 dL_law_19 rfl) ?_
  refine mb_l_cons (ms_astore dL_law_21 rfl) ?_
  refine mb_l_cons (ms_iconst dL_law_23 rfl rfl) ?_
  refine mb_l_cons (ms_newi hX mw_172 dL_law_24 rfl) ?_
  refine mb_l_cons (ms_astore dL_law_26 rfl) ?_
  refine mb_l_cons (ms_iconst dL_law_28 rfl rfl) ?_
  refine mb_l_cons (ms_newi hX mw_172 dL_law_29 rfl) ?_
  refine mb_l_cons (ms_astore dL_law_31 rfl) ?_
  refine mb_l_cons (ms_iconst dL_law_33 rfl rfl) ?_
  refine mb_l_cons (ms_istore dL_law_34 rfl) ?_
  refine mb_l_cons (ms_iconst dL_law_36 rfl rfl) ?_
  refine mb_l_cons (ms_istore dL_law_37 rfl) ?_
  refine mb_l_cons (ms_aload_n dL_law_39 rfl rfl) ?_
  refine mb_l_cons (ms_callv (ci := 7) hX (y := 41) (y0 := yX7_asset) (bytes := cX7_asset) rfl (C := RX7) (T := TX7) (N := 7) rfl mq_L_82_X7_asset mw_73 mw_74 mw_75 dL_law_40 (fun _ _ _ h => nomatch h) rfl) ?_
  refine mb_l_cons (ms_if_ne dL_law_43 rfl rfl) ?_
  refine mb_l_cons (ms_aload_n dL_law_46 rfl rfl) ?_
  refine mb_l_cons (ms_callv (ci := 7) hX (y := 41) (y0 := yX7_asset) (bytes := cX7_asset) rfl (C := RX7) (T := TX7) (N := 7) rfl mq_L_82_X7_asset mw_73 mw_74 mw_75 dL_law_47 (fun _ _ _ h => nomatch h) rfl) ?_
  refine mb_l_cons (ms_iconst dL_law_50 rfl rfl) ?_
  refine mb_l_cons (ms_icmp_ne dL_law_51 rfl rfl) ?_
  refine mb_l_cons (ms_aload_n dL_law_54 rfl rfl) ?_
  refine mb_l_cons (ms_bipush dL_law_55 rfl rfl) ?_
  refine mb_l_cons (ms_callv (ci := 7) hX (y := 49) (y0 := yX7_scene) (bytes := cX7_scene) rfl (C := RX7) (T := TX7) (N := 7) rfl mq_L_86_X7_scene mw_281 mw_282 mw_283 dL_law_57 (fun _ _ _ h => nomatch h) rfl) ?_
  refine mb_l_cons (ms_if_ne dL_law_60 rfl rfl) ?_
  refine mb_l_cons (ms_aload_n dL_law_63 rfl rfl) ?_
  refine mb_l_cons (ms_bipush dL_law_64 rfl rfl) ?_
  refine mb_l_cons (ms_callv (ci := 7) hX (y := 49) (y0 := yX7_scene) (bytes := cX7_scene) rfl (C := RX7) (T := TX7) (N := 7) rfl mq_L_86_X7_scene mw_281 mw_282 mw_283 dL_law_66 (fun _ _ _ h => nomatch h) rfl) ?_
  refine mb_l_cons (ms_iconst dL_law_69 rfl rfl) ?_
  refine mb_l_cons (ms_icmp_ne dL_law_70 rfl rfl) ?_
  refine mb_l_cons (ms_iconst dL_law_73 rfl rfl) ?_
  refine mb_l_cons (ms_goto dL_law_74 rfl) ?_
  refine mb_l_cons (ms_iconst dL_law_77 rfl rfl) ?_
  refine mb_l_cons (ms_istore dL_law_78 rfl) ?_
  refine mb_l_cons (ms_aload dL_law_80 rfl) ?_
  refine mb_l_cons (ms_iconst dL_law_82 rfl rfl) ?_
  refine mb_l_cons (ms_bipush dL_law_83 rfl rfl) ?_
  refine mb_l_cons (ms_iast hX dL_law_85 rfl) ?_
  refine mb_l_cons (ms_aload dL_law_86 rfl) ?_
  refine mb_l_cons (ms_iconst dL_law_88 rfl rfl) ?_
  refine mb_l_cons (ms_bipush dL_law_89 rfl rfl) ?_
  refine mb_l_cons (ms_iast hX dL_law_91 rfl) ?_
  refine mb_l_cons (ms_aload_n dL_law_92 rfl rfl) ?_
  refine mb_l_cons (ms_alen hX dL_law_93 rfl) ?_
  refine mb_l_cons (ms_bipush dL_law_94 rfl rfl) ?_
  refine mb_l_cons (ms_icmp_ge dL_law_96 rfl rfl) ?_
  refine mb_l_cons (ms_sipush dL_law_99 rfl rfl) ?_
  refine mb_l_cons (ms_goto dL_law_102 rfl) ?_
  refine mb_l_cons (ms_aload_n dL_law_105 rfl rfl) ?_
  refine mb_l_cons (ms_alen hX dL_law_106 rfl) ?_
  refine mb_l_cons (ms_bipush dL_law_107 rfl rfl) ?_
  refine mb_l_cons (ms_icmp_ge dL_law_109 rfl rfl) ?_
  refine mb_l_cons (ms_iconst dL_law_112 rfl rfl) ?_
  refine mb_l_cons (ms_aload_n dL_law_113 rfl rfl) ?_
  refine mb_l_cons (ms_alen hX dL_law_114 rfl) ?_
  refine mb_l_cons (ms_imul dL_law_115 rfl) ?_
  refine mb_l_cons (ms_goto dL_law_116 rfl) ?_
  refine mb_l_cons (ms_sipush dL_law_119 rfl rfl) ?_
  refine mb_l_cons (ms_istore dL_law_122 rfl) ?_
  refine mb_l_cons (ms_iconst dL_law_124 rfl rfl) ?_
  refine mb_l_cons (ms_istore dL_law_125 rfl) ?_
  refine mb_l_cons (ms_iload dL_law_127 rfl) ?_
  refine mb_l_cons (ms_iload dL_law_129 rfl) ?_
  refine mb_l_cons (ms_icmp_ge dL_law_131 rfl rfl) ?_
  refine mb_l_cons (ms_iload dL_law_134 rfl) ?_
  refine mb_l_cons (ms_if_eq dL_law_136 rfl rfl) ?_
  refine mb_l_cons (ms_aload_n dL_law_139 rfl rfl) ?_
  refine mb_l_cons (ms_iload dL_law_140 rfl) ?_
  refine mb_l_cons (ms_calls hX (y := 87) (y0 := yL_draw) (bytes := cL_draw) rfl mq_L_89_L_draw mw_646 mw_647 dL_law_142 rfl) ?_
  refine mb_l_cons (ms_iconst dL_law_145 rfl rfl) ?_
  refine mb_l_cons (ms_ishr dL_law_146 rfl) ?_
  refine mb_l_cons (ms_ldc hX mw_674 dL_law_147 rfl) ?_
  refine mb_l_cons (ms_iand dL_law_149 rfl) ?_
  refine mb_l_cons (ms_istore dL_law_150 rfl) ?_
  refine mb_l_cons (ms_iload dL_law_152 rfl) ?_
  refine mb_l_cons (ms_iconst dL_law_154 rfl rfl) ?_
  refine mb_l_cons (ms_icmp_ge dL_law_155 rfl rfl) ?_
  refine mb_l_cons (ms_iconst dL_law_158 rfl rfl) ?_
  refine mb_l_cons (ms_goto dL_law_159 rfl) ?_
  refine mb_l_cons (ms_aload_n dL_law_162 rfl rfl) ?_
  refine mb_l_cons (ms_iload dL_law_163 rfl) ?_
  refine mb_l_cons (ms_calls hX (y := 87) (y0 := yL_draw) (bytes := cL_draw) rfl mq_L_89_L_draw mw_646 mw_647 dL_law_165 rfl) ?_
  refine mb_l_cons (ms_bipush dL_law_168 rfl rfl) ?_
  refine mb_l_cons (ms_iand dL_law_170 rfl) ?_
  refine mb_l_cons (ms_istore dL_law_171 rfl) ?_
  refine mb_l_cons (ms_iload dL_law_173 rfl) ?_
  refine mb_l_cons (ms_iconst dL_law_175 rfl rfl) ?_
  refine mb_l_cons (ms_icmp_ge dL_law_176 rfl rfl) ?_
  refine mb_l_cons (ms_iload dL_law_179 rfl) ?_
  refine mb_l_cons (ms_goto dL_law_181 rfl) ?_
  refine mb_l_cons (ms_iload dL_law_184 rfl) ?_
  refine mb_l_cons (ms_iconst dL_law_186 rfl rfl) ?_
  refine mb_l_cons (ms_iand dL_law_187 rfl) ?_
  refine mb_l_cons (ms_istore dL_law_188 rfl) ?_
  refine mb_l_cons (ms_iload dL_law_190 rfl) ?_
  refine mb_l_cons (ms_iconst dL_law_192 rfl rfl) ?_
  refine mb_l_cons (ms_ishr dL_law_193 rfl) ?_
  refine mb_l_cons (ms_iconst dL_law_194 rfl rfl) ?_
  refine mb_l_cons (ms_iand dL_law_195 rfl) ?_
  refine mb_l_cons (ms_istore dL_law_196 rfl) ?_
  refine mb_l_cons (ms_iload dL_law_198 rfl) ?_
  refine mb_l_cons (ms_iconst dL_law_200 rfl rfl) ?_
  refine mb_l_cons (ms_icmp_ge dL_law_201 rfl rfl) ?_
  refine mb_l_cons (ms_aload dL_law_204 rfl) ?_
  refine mb_l_cons (ms_iload dL_law_206 rfl) ?_
  refine mb_l_cons (ms_iald hX dL_law_208 rfl) ?_
  refine mb_l_cons (ms_iconst dL_law_209 rfl rfl) ?_
  refine mb_l_cons (ms_icmp_ge dL_law_210 rfl rfl) ?_
  refine mb_l_cons (ms_aload_n dL_law_213 rfl rfl) ?_
  refine mb_l_cons (ms_iconst dL_law_214 rfl rfl) ?_
  refine mb_l_cons (ms_iload dL_law_215 rfl) ?_
  refine mb_l_cons (ms_iload dL_law_217 rfl) ?_
  refine mb_l_cons (ms_iconst dL_law_219 rfl rfl) ?_
  refine mb_l_cons (ms_ishr dL_law_220 rfl) ?_
  refine mb_l_cons (ms_aload dL_law_221 rfl) ?_
  refine mb_l_cons (ms_iload dL_law_223 rfl) ?_
  refine mb_l_cons (ms_iald hX dL_law_225 rfl) ?_
  refine mb_l_cons (ms_iconst dL_law_226 rfl rfl) ?_
  refine mb_l_cons (ms_iadd dL_law_227 rfl) ?_
  refine mb_l_cons (ms_irem dL_law_228 rfl) ?_
  refine mb_l_cons (ms_iconst dL_law_229 rfl rfl) ?_
  refine mb_l_cons (ms_isub dL_law_230 rfl) ?_
  refine mb_l_cons (ms_iconst dL_law_231 rfl rfl) ?_
  refine mb_l_cons (ms_iconst dL_law_232 rfl rfl) ?_
  refine mb_l_cons (ms_iconst dL_law_233 rfl rfl) ?_
  refine mb_l_cons (ms_callsw hX (y := 86) (y0 := yL_ask) (bytes := cL_ask) rfl mq_L_94_L_ask mw_450 mw_451 dL_law_234 rfl) ?_
  refine mb_l_cons (ms_aload dL_law_237 rfl) ?_
  refine mb_l_cons (ms_iload dL_law_239 rfl) ?_
  refine mb_l_cons (ms_iald hX dL_law_241 rfl) ?_
  refine mb_l_cons (ms_icmp_ne dL_law_242 rfl rfl) ?_
  refine mb_l_cons (ms_iconst dL_law_245 rfl rfl) ?_
  refine mb_l_cons (ms_goto dL_law_246 rfl) ?_
  refine mb_l_cons (ms_iconst dL_law_249 rfl rfl) ?_
  refine mb_l_cons (ms_istore dL_law_250 rfl) ?_
  refine mb_l_cons (ms_aload dL_law_252 rfl) ?_
  refine mb_l_cons (ms_iload dL_law_254 rfl) ?_
  refine mb_l_cons (ms_dup2 dL_law_256 rfl) ?_
  refine mb_l_cons (ms_iald hX dL_law_257 rfl) ?_
  refine mb_l_cons (ms_iconst dL_law_258 rfl rfl) ?_
  refine mb_l_cons (ms_iadd dL_law_259 rfl) ?_
  refine mb_l_cons (ms_iast hX dL_law_260 rfl) ?_
  refine mb_l_cons (ms_goto dL_law_261 rfl) ?_
  refine mb_l_cons (ms_iload dL_law_264 rfl) ?_
  refine mb_l_cons (ms_bipush dL_law_266 rfl rfl) ?_
  refine mb_l_cons (ms_icmp_ge dL_law_268 rfl rfl) ?_
  refine mb_l_cons (ms_iload dL_law_271 rfl) ?_
  refine mb_l_cons (ms_iconst dL_law_273 rfl rfl) ?_
  refine mb_l_cons (ms_ishr dL_law_274 rfl) ?_
  refine mb_l_cons (ms_aload dL_law_275 rfl) ?_
  refine mb_l_cons (ms_iload dL_law_277 rfl) ?_
  refine mb_l_cons (ms_iald hX dL_law_279 rfl) ?_
  refine mb_l_cons (ms_irem dL_law_280 rfl) ?_
  refine mb_l_cons (ms_istore dL_law_281 rfl) ?_
  refine mb_l_cons (ms_iload dL_law_283 rfl) ?_
  refine mb_l_cons (ms_iconst dL_law_285 rfl rfl) ?_
  refine mb_l_cons (ms_ishr dL_law_286 rfl) ?_
  refine mb_l_cons (ms_bipush dL_law_287 rfl rfl) ?_
  refine mb_l_cons (ms_irem dL_law_289 rfl) ?_
  refine mb_l_cons (ms_istore dL_law_290 rfl) ?_
  refine mb_l_cons (ms_iload dL_law_292 rfl) ?_
  refine mb_l_cons (ms_bipush dL_law_294 rfl rfl) ?_
  refine mb_l_cons (ms_ishr dL_law_296 rfl) ?_
  refine mb_l_cons (ms_sipush dL_law_297 rfl rfl) ?_
  refine mb_l_cons (ms_irem dL_law_300 rfl) ?_
  refine mb_l_cons (ms_sipush dL_law_301 rfl rfl) ?_
  refine mb_l_cons (ms_isub dL_law_304 rfl) ?_
  refine mb_l_cons (ms_istore dL_law_305 rfl) ?_
  refine mb_l_cons (ms_aload_n dL_law_307 rfl rfl) ?_
  refine mb_l_cons (ms_iconst dL_law_308 rfl rfl) ?_
  refine mb_l_cons (ms_iload dL_law_309 rfl) ?_
  refine mb_l_cons (ms_iload dL_law_311 rfl) ?_
  refine mb_l_cons (ms_iload dL_law_313 rfl) ?_
  refine mb_l_cons (ms_iload dL_law_315 rfl) ?_
  refine mb_l_cons (ms_iload dL_law_317 rfl) ?_
  refine mb_l_cons (ms_iconst dL_law_319 rfl rfl) ?_
  refine mb_l_cons (ms_ishr dL_law_320 rfl) ?_
  refine mb_l_cons (ms_iconst dL_law_321 rfl rfl) ?_
  refine mb_l_cons (ms_irem dL_law_322 rfl) ?_
  refine mb_l_cons (ms_callsw hX (y := 86) (y0 := yL_ask) (bytes := cL_ask) rfl mq_L_94_L_ask mw_450 mw_451 dL_law_323 rfl) ?_
  refine mb_l_cons (ms_istore dL_law_326 rfl) ?_
  refine mb_l_cons (ms_iload dL_law_328 rfl) ?_
  refine mb_l_cons (ms_if_le dL_law_330 rfl rfl) ?_
  refine mb_l_cons (ms_iload dL_law_333 rfl) ?_
  refine mb_l_cons (ms_bipush dL_law_335 rfl rfl) ?_
  refine mb_l_cons (ms_icmp_ge dL_law_337 rfl rfl) ?_
  refine mb_l_cons (ms_aload_n dL_law_340 rfl rfl) ?_
  refine mb_l_cons (ms_iload dL_law_341 rfl) ?_
  refine mb_l_cons (ms_iconst dL_law_343 rfl rfl) ?_
  refine mb_l_cons (ms_iload dL_law_344 rfl) ?_
  refine mb_l_cons (ms_iload dL_law_346 rfl) ?_
  refine mb_l_cons (ms_callv (ci := 7) hX (y := 46) (y0 := yX7_pose) (bytes := cX7_pose) rfl (C := RX7) (T := TX7) (N := 7) rfl mq_L_59_X7_pose mw_186 mw_187 mw_188 dL_law_348 (fun _ _ _ h => nomatch h) rfl) ?_
  refine mb_l_cons (ms_aload_n dL_law_351 rfl rfl) ?_
  refine mb_l_cons (ms_iload dL_law_352 rfl) ?_
  refine mb_l_cons (ms_iconst dL_law_354 rfl rfl) ?_
  refine mb_l_cons (ms_iload dL_law_355 rfl) ?_
  refine mb_l_cons (ms_iload dL_law_357 rfl) ?_
  refine mb_l_cons (ms_callv (ci := 7) hX (y := 47) (y0 := yX7_poseAnew) (bytes := cX7_poseAnew) rfl (C := RX7) (T := TX7) (N := 7) rfl mq_L_97_X7_poseAnew mw_276 mw_277 mw_278 dL_law_359 (fun _ _ _ h => nomatch h) rfl) ?_
  refine mb_l_cons (ms_icmp_ne dL_law_362 rfl rfl) ?_
  refine mb_l_cons (ms_iconst dL_law_365 rfl rfl) ?_
  refine mb_l_cons (ms_goto dL_law_366 rfl) ?_
  refine mb_l_cons (ms_iconst dL_law_369 rfl rfl) ?_
  refine mb_l_cons (ms_istore dL_law_370 rfl) ?_
  refine mb_l_cons (ms_goto dL_law_372 rfl) ?_
  refine mb_l_cons (ms_iload dL_law_375 rfl) ?_
  refine mb_l_cons (ms_bipush dL_law_377 rfl rfl) ?_
  refine mb_l_cons (ms_icmp_ge dL_law_379 rfl rfl) ?_
  refine mb_l_cons (ms_aload_n dL_law_382 rfl rfl) ?_
  refine mb_l_cons (ms_iconst dL_law_383 rfl rfl) ?_
  refine mb_l_cons (ms_iload dL_law_384 rfl) ?_
  refine mb_l_cons (ms_iload dL_law_386 rfl) ?_
  refine mb_l_cons (ms_iconst dL_law_388 rfl rfl) ?_
  refine mb_l_cons (ms_ishr dL_law_389 rfl) ?_
  refine mb_l_cons (ms_aload dL_law_390 rfl) ?_
  refine mb_l_cons (ms_iload dL_law_392 rfl) ?_
  refine mb_l_cons (ms_iald hX dL_law_394 rfl) ?_
  refine mb_l_cons (ms_irem dL_law_395 rfl) ?_
  refine mb_l_cons (ms_iload dL_law_396 rfl) ?_
  refine mb_l_cons (ms_iconst dL_law_398 rfl rfl) ?_
  refine mb_l_cons (ms_ishr dL_law_399 rfl) ?_
  refine mb_l_cons (ms_bipush dL_law_400 rfl rfl) ?_
  refine mb_l_cons (ms_irem dL_law_402 rfl) ?_
  refine mb_l_cons (ms_iconst dL_law_403 rfl rfl) ?_
  refine mb_l_cons (ms_iconst dL_law_404 rfl rfl) ?_
  refine mb_l_cons (ms_callsw hX (y := 86) (y0 := yL_ask) (bytes := cL_ask) rfl mq_L_94_L_ask mw_450 mw_451 dL_law_405 rfl) ?_
  refine mb_l_cons (ms_istore dL_law_408 rfl) ?_
  refine mb_l_cons (ms_iload dL_law_410 rfl) ?_
  refine mb_l_cons (ms_if_eq dL_law_412 rfl rfl) ?_
  refine mb_l_cons (ms_iload dL_law_415 rfl) ?_
  refine mb_l_cons (ms_iconst dL_law_417 rfl rfl) ?_
  refine mb_l_cons (ms_icmp_ne dL_law_418 rfl rfl) ?_
  refine mb_l_cons (ms_aload_n dL_law_421 rfl rfl) ?_
  refine mb_l_cons (ms_iconst dL_law_422 rfl rfl) ?_
  refine mb_l_cons (ms_iload dL_law_423 rfl) ?_
  refine mb_l_cons (ms_iload dL_law_425 rfl) ?_
  refine mb_l_cons (ms_iconst dL_law_427 rfl rfl) ?_
  refine mb_l_cons (ms_ishr dL_law_428 rfl) ?_
  refine mb_l_cons (ms_aload dL_law_429 rfl) ?_
  refine mb_l_cons (ms_iload dL_law_431 rfl) ?_
  refine mb_l_cons (ms_iald hX dL_law_433 rfl) ?_
  refine mb_l_cons (ms_irem dL_law_434 rfl) ?_
  refine mb_l_cons (ms_iload dL_law_435 rfl) ?_
  refine mb_l_cons (ms_iconst dL_law_437 rfl rfl) ?_
  refine mb_l_cons (ms_ishr dL_law_438 rfl) ?_
  refine mb_l_cons (ms_bipush dL_law_439 rfl rfl) ?_
  refine mb_l_cons (ms_irem dL_law_441 rfl) ?_
  refine mb_l_cons (ms_iconst dL_law_442 rfl rfl) ?_
  refine mb_l_cons (ms_iconst dL_law_443 rfl rfl) ?_
  refine mb_l_cons (ms_callsw hX (y := 86) (y0 := yL_ask) (bytes := cL_ask) rfl mq_L_94_L_ask mw_450 mw_451 dL_law_444 rfl) ?_
  refine mb_l_cons (ms_if_ne dL_law_447 rfl rfl) ?_
  refine mb_l_cons (ms_iconst dL_law_450 rfl rfl) ?_
  refine mb_l_cons (ms_goto dL_law_451 rfl) ?_
  refine mb_l_cons (ms_iconst dL_law_454 rfl rfl) ?_
  refine mb_l_cons (ms_istore dL_law_455 rfl) ?_
  refine mb_l_cons (ms_goto dL_law_457 rfl) ?_
  refine mb_l_cons (ms_iload dL_law_460 rfl) ?_
  refine mb_l_cons (ms_bipush dL_law_462 rfl rfl) ?_
  refine mb_l_cons (ms_icmp_ge dL_law_464 rfl rfl) ?_
  refine mb_l_cons (ms_aload dL_law_467 rfl) ?_
  refine mb_l_cons (ms_iload dL_law_469 rfl) ?_
  refine mb_l_cons (ms_iald hX dL_law_471 rfl) ?_
  refine mb_l_cons (ms_bipush dL_law_472 rfl rfl) ?_
  refine mb_l_cons (ms_icmp_ge dL_law_474 rfl rfl) ?_
  refine mb_l_cons (ms_aload_n dL_law_477 rfl rfl) ?_
  refine mb_l_cons (ms_iconst dL_law_478 rfl rfl) ?_
  refine mb_l_cons (ms_iload dL_law_479 rfl) ?_
  refine mb_l_cons (ms_iconst dL_law_481 rfl rfl) ?_
  refine mb_l_cons (ms_iconst dL_law_482 rfl rfl) ?_
  refine mb_l_cons (ms_iconst dL_law_483 rfl rfl) ?_
  refine mb_l_cons (ms_iconst dL_law_484 rfl rfl) ?_
  refine mb_l_cons (ms_callsw hX (y := 86) (y0 := yL_ask) (bytes := cL_ask) rfl mq_L_94_L_ask mw_450 mw_451 dL_law_485 rfl) ?_
  refine mb_l_cons (ms_aload dL_law_488 rfl) ?_
  refine mb_l_cons (ms_iload dL_law_490 rfl) ?_
  refine mb_l_cons (ms_iald hX dL_law_492 rfl) ?_
  refine mb_l_cons (ms_icmp_ne dL_law_493 rfl rfl) ?_
  refine mb_l_cons (ms_iconst dL_law_496 rfl rfl) ?_
  refine mb_l_cons (ms_goto dL_law_497 rfl) ?_
  refine mb_l_cons (ms_iconst dL_law_500 rfl rfl) ?_
  refine mb_l_cons (ms_istore dL_law_501 rfl) ?_
  refine mb_l_cons (ms_aload_n dL_law_503 rfl rfl) ?_
  refine mb_l_cons (ms_bipush dL_law_504 rfl rfl) ?_
  refine mb_l_cons (ms_iload dL_law_506 rfl) ?_
  refine mb_l_cons (ms_imul dL_law_508 rfl) ?_
  refine mb_l_cons (ms_aload dL_law_509 rfl) ?_
  refine mb_l_cons (ms_iload dL_law_511 rfl) ?_
  refine mb_l_cons (ms_iald hX dL_law_513 rfl) ?_
  refine mb_l_cons (ms_iadd dL_law_514 rfl) ?_
  refine mb_l_cons (ms_aload dL_law_515 rfl) ?_
  refine mb_l_cons (ms_iload dL_law_517 rfl) ?_
  refine mb_l_cons (ms_iald hX dL_law_519 rfl) ?_
  refine mb_l_cons (ms_iast hX dL_law_520 rfl) ?_
  refine mb_l_cons (ms_aload_n dL_law_521 rfl rfl) ?_
  refine mb_l_cons (ms_bipush dL_law_522 rfl rfl) ?_
  refine mb_l_cons (ms_iload dL_law_524 rfl) ?_
  refine mb_l_cons (ms_imul dL_law_526 rfl) ?_
  refine mb_l_cons (ms_aload dL_law_527 rfl) ?_
  refine mb_l_cons (ms_iload dL_law_529 rfl) ?_
  refine mb_l_cons (ms_iald hX dL_law_531 rfl) ?_
  refine mb_l_cons (ms_iadd dL_law_532 rfl) ?_
  refine mb_l_cons (ms_aload_n dL_law_533 rfl rfl) ?_
  refine mb_l_cons (ms_iload dL_law_534 rfl) ?_
  refine mb_l_cons (ms_iconst dL_law_536 rfl rfl) ?_
  refine mb_l_cons (ms_aload dL_law_537 rfl) ?_
  refine mb_l_cons (ms_iload dL_law_539 rfl) ?_
  refine mb_l_cons (ms_iald hX dL_law_541 rfl) ?_
  refine mb_l_cons (ms_calls hX (y := 88) (y0 := yL_poses) (bytes := cL_poses) rfl mq_L_100_L_poses mw_651 mw_652 dL_law_542 rfl) ?_
  refine mb_l_cons (ms_iast hX dL_law_545 rfl) ?_
  refine mb_l_cons (ms_aload dL_law_546 rfl) ?_
  refine mb_l_cons (ms_iload dL_law_548 rfl) ?_
  refine mb_l_cons (ms_dup2 dL_law_550 rfl) ?_
  refine mb_l_cons (ms_iald hX dL_law_551 rfl) ?_
  refine mb_l_cons (ms_iconst dL_law_552 rfl rfl) ?_
  refine mb_l_cons (ms_iadd dL_law_553 rfl) ?_
  refine mb_l_cons (ms_iast hX dL_law_554 rfl) ?_
  refine mb_l_cons (ms_goto dL_law_555 rfl) ?_
  refine mb_l_cons (ms_iload dL_law_558 rfl) ?_
  refine mb_l_cons (ms_bipush dL_law_560 rfl rfl) ?_
  refine mb_l_cons (ms_icmp_ge dL_law_562 rfl rfl) ?_
  refine mb_l_cons (ms_iload dL_law_565 rfl) ?_
  refine mb_l_cons (ms_iconst dL_law_567 rfl rfl) ?_
  refine mb_l_cons (ms_ishr dL_law_568 rfl) ?_
  refine mb_l_cons (ms_aload dL_law_569 rfl) ?_
  refine mb_l_cons (ms_iload dL_law_571 rfl) ?_
  refine mb_l_cons (ms_iald hX dL_law_573 rfl) ?_
  refine mb_l_cons (ms_iconst dL_law_574 rfl rfl) ?_
  refine mb_l_cons (ms_iadd dL_law_575 rfl) ?_
  refine mb_l_cons (ms_irem dL_law_576 rfl) ?_
  refine mb_l_cons (ms_iconst dL_law_577 rfl rfl) ?_
  refine mb_l_cons (ms_isub dL_law_578 rfl) ?_
  refine mb_l_cons (ms_istore dL_law_579 rfl) ?_
  refine mb_l_cons (ms_iload dL_law_581 rfl) ?_
  refine mb_l_cons (ms_bipush dL_law_583 rfl rfl) ?_
  refine mb_l_cons (ms_ishr dL_law_585 rfl) ?_
  refine mb_l_cons (ms_bipush dL_law_586 rfl rfl) ?_
  refine mb_l_cons (ms_irem dL_law_588 rfl) ?_
  refine mb_l_cons (ms_istore dL_law_589 rfl) ?_
  refine mb_l_cons (ms_aload_n dL_law_591 rfl rfl) ?_
  refine mb_l_cons (ms_iconst dL_law_592 rfl rfl) ?_
  refine mb_l_cons (ms_iload dL_law_593 rfl) ?_
  refine mb_l_cons (ms_iload dL_law_595 rfl) ?_
  refine mb_l_cons (ms_iload dL_law_597 rfl) ?_
  refine mb_l_cons (ms_iload dL_law_599 rfl) ?_
  refine mb_l_cons (ms_iload dL_law_601 rfl) ?_
  refine mb_l_cons (ms_iload dL_law_603 rfl) ?_
  refine mb_l_cons (ms_bipush dL_law_605 rfl rfl) ?_
  refine mb_l_cons (ms_ishr dL_law_607 rfl) ?_
  refine mb_l_cons (ms_bipush dL_law_608 rfl rfl) ?_
  refine mb_l_cons (ms_irem dL_law_610 rfl) ?_
  refine mb_l_cons (ms_iadd dL_law_611 rfl) ?_
  refine mb_l_cons (ms_callsw hX (y := 86) (y0 := yL_ask) (bytes := cL_ask) rfl mq_L_94_L_ask mw_450 mw_451 dL_law_612 rfl) ?_
  refine mb_l_cons (ms_istore dL_law_615 rfl) ?_
  refine mb_l_cons (ms_iload dL_law_617 rfl) ?_
  refine mb_l_cons (ms_iconst dL_law_619 rfl rfl) ?_
  refine mb_l_cons (ms_icmp_eq dL_law_620 rfl rfl) ?_
  refine mb_l_cons (ms_iload dL_law_623 rfl) ?_
  refine mb_l_cons (ms_iconst dL_law_625 rfl rfl) ?_
  refine mb_l_cons (ms_icmp_ne dL_law_626 rfl rfl) ?_
  refine mb_l_cons (ms_iconst dL_law_629 rfl rfl) ?_
  refine mb_l_cons (ms_goto dL_law_630 rfl) ?_
  refine mb_l_cons (ms_iconst dL_law_633 rfl rfl) ?_
  refine mb_l_cons (ms_istore dL_law_634 rfl) ?_
  refine mb_l_cons (ms_goto dL_law_636 rfl) ?_
  refine mb_l_cons (ms_iload dL_law_639 rfl) ?_
  refine mb_l_cons (ms_bipush dL_law_641 rfl rfl) ?_
  refine mb_l_cons (ms_icmp_ne dL_law_643 rfl rfl) ?_
  refine mb_l_cons (ms_iload dL_law_646 rfl) ?_
  refine mb_l_cons (ms_iconst dL_law_648 rfl rfl) ?_
  refine mb_l_cons (ms_ishr dL_law_649 rfl) ?_
  refine mb_l_cons (ms_aload dL_law_650 rfl) ?_
  refine mb_l_cons (ms_iload dL_law_652 rfl) ?_
  refine mb_l_cons (ms_iald hX dL_law_654 rfl) ?_
  refine mb_l_cons (ms_irem dL_law_655 rfl) ?_
  refine mb_l_cons (ms_istore dL_law_656 rfl) ?_
  refine mb_l_cons (ms_iconst dL_law_658 rfl rfl) ?_
  refine mb_l_cons (ms_iload dL_law_659 rfl) ?_
  refine mb_l_cons (ms_iconst dL_law_661 rfl rfl) ?_
  refine mb_l_cons (ms_ishr dL_law_662 rfl) ?_
  refine mb_l_cons (ms_iconst dL_law_663 rfl rfl) ?_
  refine mb_l_cons (ms_irem dL_law_664 rfl) ?_
  refine mb_l_cons (ms_iadd dL_law_665 rfl) ?_
  refine mb_l_cons (ms_istore dL_law_666 rfl) ?_
  refine mb_l_cons (ms_aload_n dL_law_668 rfl rfl) ?_
  refine mb_l_cons (ms_iconst dL_law_669 rfl rfl) ?_
  refine mb_l_cons (ms_iload dL_law_670 rfl) ?_
  refine mb_l_cons (ms_iload dL_law_672 rfl) ?_
  refine mb_l_cons (ms_iload dL_law_674 rfl) ?_
  refine mb_l_cons (ms_iconst dL_law_676 rfl rfl) ?_
  refine mb_l_cons (ms_iconst dL_law_677 rfl rfl) ?_
  refine mb_l_cons (ms_callsw hX (y := 86) (y0 := yL_ask) (bytes := cL_ask) rfl mq_L_94_L_ask mw_450 mw_451 dL_law_678 rfl) ?_
  refine mb_l_cons (ms_istore dL_law_681 rfl) ?_
  refine mb_l_cons (ms_iload dL_law_683 rfl) ?_
  refine mb_l_cons (ms_aload dL_law_685 rfl) ?_
  refine mb_l_cons (ms_iload dL_law_687 rfl) ?_
  refine mb_l_cons (ms_iald hX dL_law_689 rfl) ?_
  refine mb_l_cons (ms_iload dL_law_690 rfl) ?_
  refine mb_l_cons (ms_isub dL_law_692 rfl) ?_
  refine mb_l_cons (ms_icmp_gt dL_law_693 rfl rfl) ?_
  refine mb_l_cons (ms_iload dL_law_696 rfl) ?_
  refine mb_l_cons (ms_aload dL_law_698 rfl) ?_
  refine mb_l_cons (ms_iload dL_law_700 rfl) ?_
  refine mb_l_cons (ms_iald hX dL_law_702 rfl) ?_
  refine mb_l_cons (ms_icmp_ge dL_law_703 rfl rfl) ?_
  refine mb_l_cons (ms_iconst dL_law_706 rfl rfl) ?_
  refine mb_l_cons (ms_goto dL_law_707 rfl) ?_
  refine mb_l_cons (ms_iconst dL_law_710 rfl rfl) ?_
  refine mb_l_cons (ms_istore dL_law_711 rfl) ?_
  refine mb_l_cons (ms_iload dL_law_713 rfl) ?_
  refine mb_l_cons (ms_iload dL_law_715 rfl) ?_
  refine mb_l_cons (ms_if_eq dL_law_717 rfl rfl) ?_
  refine mb_l_cons (ms_aload dL_law_720 rfl) ?_
  refine mb_l_cons (ms_iload dL_law_722 rfl) ?_
  refine mb_l_cons (ms_iald hX dL_law_724 rfl) ?_
  refine mb_l_cons (ms_iload dL_law_725 rfl) ?_
  refine mb_l_cons (ms_isub dL_law_727 rfl) ?_
  refine mb_l_cons (ms_goto dL_law_728 rfl) ?_
  refine mb_l_cons (ms_ldc hX mw_645 dL_law_731 rfl) ?_
  refine mb_l_cons (ms_icmp_ne dL_law_733 rfl rfl) ?_
  refine mb_l_cons (ms_iconst dL_law_736 rfl rfl) ?_
  refine mb_l_cons (ms_goto dL_law_737 rfl) ?_
  refine mb_l_cons (ms_iconst dL_law_740 rfl rfl) ?_
  refine mb_l_cons (ms_istore dL_law_741 rfl) ?_
  refine mb_l_cons (ms_aload dL_law_743 rfl) ?_
  refine mb_l_cons (ms_iload dL_law_745 rfl) ?_
  refine mb_l_cons (ms_dup2 dL_law_747 rfl) ?_
  refine mb_l_cons (ms_iald hX dL_law_748 rfl) ?_
  refine mb_l_cons (ms_iload dL_law_749 rfl) ?_
  refine mb_l_cons (ms_if_eq dL_law_751 rfl rfl) ?_
  refine mb_l_cons (ms_iload dL_law_754 rfl) ?_
  refine mb_l_cons (ms_goto dL_law_756 rfl) ?_
  refine mb_l_cons (ms_iconst dL_law_759 rfl rfl) ?_
  refine mb_l_cons (ms_isub dL_law_760 rfl) ?_
  refine mb_l_cons (ms_iast hX dL_law_761 rfl) ?_
  refine mb_l_cons (ms_goto dL_law_762 rfl) ?_
  refine mb_l_cons (ms_iload dL_law_765 rfl) ?_
  refine mb_l_cons (ms_bipush dL_law_767 rfl rfl) ?_
  refine mb_l_cons (ms_icmp_ge dL_law_769 rfl rfl) ?_
  refine mb_l_cons (ms_iload dL_law_772 rfl) ?_
  refine mb_l_cons (ms_bipush dL_law_774 rfl rfl) ?_
  refine mb_l_cons (ms_icmp_ge dL_law_776 rfl rfl) ?_
  refine mb_l_cons (ms_aload_n dL_law_779 rfl rfl) ?_
  refine mb_l_cons (ms_bipush dL_law_780 rfl rfl) ?_
  refine mb_l_cons (ms_iload dL_law_782 rfl) ?_
  refine mb_l_cons (ms_iload dL_law_784 rfl) ?_
  refine mb_l_cons (ms_iconst dL_law_786 rfl rfl) ?_
  refine mb_l_cons (ms_ishr dL_law_787 rfl) ?_
  refine mb_l_cons (ms_aload dL_law_788 rfl) ?_
  refine mb_l_cons (ms_iload dL_law_790 rfl) ?_
  refine mb_l_cons (ms_iald hX dL_law_792 rfl) ?_
  refine mb_l_cons (ms_irem dL_law_793 rfl) ?_
  refine mb_l_cons (ms_iconst dL_law_794 rfl rfl) ?_
  refine mb_l_cons (ms_iconst dL_law_795 rfl rfl) ?_
  refine mb_l_cons (ms_iconst dL_law_796 rfl rfl) ?_
  refine mb_l_cons (ms_callsw hX (y := 86) (y0 := yL_ask) (bytes := cL_ask) rfl mq_L_94_L_ask mw_450 mw_451 dL_law_797 rfl) ?_
  refine mb_l_cons (ms_iload dL_law_800 rfl) ?_
  refine mb_l_cons (ms_icmp_ne dL_law_802 rfl rfl) ?_
  refine mb_l_cons (ms_iconst dL_law_805 rfl rfl) ?_
  refine mb_l_cons (ms_goto dL_law_806 rfl) ?_
  refine mb_l_cons (ms_iconst dL_law_809 rfl rfl) ?_
  refine mb_l_cons (ms_istore dL_law_810 rfl) ?_
  refine mb_l_cons (ms_iinc dL_law_812 rfl rfl) ?_
  refine mb_l_cons (ms_goto dL_law_815 rfl) ?_
  refine mb_l_cons (ms_iload dL_law_818 rfl) ?_
  refine mb_l_cons (ms_bipush dL_law_820 rfl rfl) ?_
  refine mb_l_cons (ms_icmp_ne dL_law_822 rfl rfl) ?_
  refine mb_l_cons (ms_iload dL_law_825 rfl) ?_
  refine mb_l_cons (ms_if_le dL_law_827 rfl rfl) ?_
  refine mb_l_cons (ms_aload_n dL_law_830 rfl rfl) ?_
  refine mb_l_cons (ms_bipush dL_law_831 rfl rfl) ?_
  refine mb_l_cons (ms_callv (ci := 7) hX (y := 61) (y0 := yX7_count) (bytes := cX7_count) rfl (C := RX7) (T := TX7) (N := 7) rfl mq_L_104_X7_count mw_430 mw_431 mw_432 dL_law_833 (fun _ _ _ h => nomatch h) rfl) ?_
  refine mb_l_cons (ms_istore dL_law_836 rfl) ?_
  refine mb_l_cons (ms_aload_n dL_law_838 rfl rfl) ?_
  refine mb_l_cons (ms_bipush dL_law_839 rfl rfl) ?_
  refine mb_l_cons (ms_iload dL_law_841 rfl) ?_
  refine mb_l_cons (ms_iconst dL_law_843 rfl rfl) ?_
  refine mb_l_cons (ms_ishr dL_law_844 rfl) ?_
  refine mb_l_cons (ms_iload dL_law_845 rfl) ?_
  refine mb_l_cons (ms_irem dL_law_847 rfl) ?_
  refine mb_l_cons (ms_iconst dL_law_848 rfl rfl) ?_
  refine mb_l_cons (ms_iconst dL_law_849 rfl rfl) ?_
  refine mb_l_cons (ms_iconst dL_law_850 rfl rfl) ?_
  refine mb_l_cons (ms_iconst dL_law_851 rfl rfl) ?_
  refine mb_l_cons (ms_callsw hX (y := 86) (y0 := yL_ask) (bytes := cL_ask) rfl mq_L_94_L_ask mw_450 mw_451 dL_law_852 rfl) ?_
  refine mb_l_cons (ms_istore dL_law_855 rfl) ?_
  refine mb_l_cons (ms_iload dL_law_857 rfl) ?_
  refine mb_l_cons (ms_if_lt dL_law_859 rfl rfl) ?_
  refine mb_l_cons (ms_aload_n dL_law_862 rfl rfl) ?_
  refine mb_l_cons (ms_bipush dL_law_863 rfl rfl) ?_
  refine mb_l_cons (ms_callv (ci := 7) hX (y := 61) (y0 := yX7_count) (bytes := cX7_count) rfl (C := RX7) (T := TX7) (N := 7) rfl mq_L_104_X7_count mw_430 mw_431 mw_432 dL_law_865 (fun _ _ _ h => nomatch h) rfl) ?_
  refine mb_l_cons (ms_iload dL_law_868 rfl) ?_
  refine mb_l_cons (ms_iconst dL_law_870 rfl rfl) ?_
  refine mb_l_cons (ms_isub dL_law_871 rfl) ?_
  refine mb_l_cons (ms_icmp_ne dL_law_872 rfl rfl) ?_
  refine mb_l_cons (ms_iload dL_law_875 rfl) ?_
  refine mb_l_cons (ms_iload dL_law_877 rfl) ?_
  refine mb_l_cons (ms_iconst dL_law_879 rfl rfl) ?_
  refine mb_l_cons (ms_isub dL_law_880 rfl) ?_
  refine mb_l_cons (ms_icmp_gt dL_law_881 rfl rfl) ?_
  refine mb_l_cons (ms_iconst dL_law_884 rfl rfl) ?_
  refine mb_l_cons (ms_goto dL_law_885 rfl) ?_
  refine mb_l_cons (ms_iconst dL_law_888 rfl rfl) ?_
  refine mb_l_cons (ms_goto dL_law_889 rfl) ?_
  refine mb_l_cons (ms_iload dL_law_892 rfl) ?_
  refine mb_l_cons (ms_ldc hX mw_645 dL_law_894 rfl) ?_
  refine mb_l_cons (ms_icmp_ne dL_law_896 rfl rfl) ?_
  refine mb_l_cons (ms_aload_n dL_law_899 rfl rfl) ?_
  refine mb_l_cons (ms_bipush dL_law_900 rfl rfl) ?_
  refine mb_l_cons (ms_callv (ci := 7) hX (y := 61) (y0 := yX7_count) (bytes := cX7_count) rfl (C := RX7) (T := TX7) (N := 7) rfl mq_L_104_X7_count mw_430 mw_431 mw_432 dL_law_902 (fun _ _ _ h => nomatch h) rfl) ?_
  refine mb_l_cons (ms_iload dL_law_905 rfl) ?_
  refine mb_l_cons (ms_icmp_ne dL_law_907 rfl rfl) ?_
  refine mb_l_cons (ms_iconst dL_law_910 rfl rfl) ?_
  refine mb_l_cons (ms_goto dL_law_911 rfl) ?_
  refine mb_l_cons (ms_iconst dL_law_914 rfl rfl) ?_
  refine mb_l_cons (ms_istore dL_law_915 rfl) ?_
  refine mb_l_cons (ms_goto dL_law_917 rfl) ?_
  refine mb_l_cons (ms_iload dL_law_920 rfl) ?_
  refine mb_l_cons (ms_bipush dL_law_922 rfl rfl) ?_
  refine mb_l_cons (ms_icmp_ge dL_law_924 rfl rfl) ?_
  refine mb_l_cons (ms_iload dL_law_927 rfl) ?_
  refine mb_l_cons (ms_iconst dL_law_929 rfl rfl) ?_
  refine mb_l_cons (ms_ishr dL_law_930 rfl) ?_
  refine mb_l_cons (ms_aload dL_law_931 rfl) ?_
  refine mb_l_cons (ms_iload dL_law_933 rfl) ?_
  refine mb_l_cons (ms_iald hX dL_law_935 rfl) ?_
  refine mb_l_cons (ms_irem dL_law_936 rfl) ?_
  refine mb_l_cons (ms_istore dL_law_937 rfl) ?_
  refine mb_l_cons (ms_aload_n dL_law_939 rfl rfl) ?_
  refine mb_l_cons (ms_iload dL_law_940 rfl) ?_
  refine mb_l_cons (ms_iload dL_law_942 rfl) ?_
  refine mb_l_cons (ms_iconst dL_law_944 rfl rfl) ?_
  refine mb_l_cons (ms_callv (ci := 7) hX (y := 59) (y0 := yX7_ofFrame) (bytes := cX7_ofFrame) rfl (C := RX7) (T := TX7) (N := 7) rfl mq_L_63_X7_ofFrame mw_408 mw_409 mw_410 dL_law_945 (fun _ _ _ h => nomatch h) rfl) ?_
  refine mb_l_cons (ms_istore dL_law_948 rfl) ?_
  refine mb_l_cons (ms_aload_n dL_law_950 rfl rfl) ?_
  refine mb_l_cons (ms_iconst dL_law_951 rfl rfl) ?_
  refine mb_l_cons (ms_callv (ci := 7) hX (y := 61) (y0 := yX7_count) (bytes := cX7_count) rfl (C := RX7) (T := TX7) (N := 7) rfl mq_L_104_X7_count mw_430 mw_431 mw_432 dL_law_952 (fun _ _ _ h => nomatch h) rfl) ?_
  refine mb_l_cons (ms_istore dL_law_955 rfl) ?_
  refine mb_l_cons (ms_aload_n dL_law_957 rfl rfl) ?_
  refine mb_l_cons (ms_iload dL_law_958 rfl) ?_
  refine mb_l_cons (ms_iload dL_law_960 rfl) ?_
  refine mb_l_cons (ms_iconst dL_law_962 rfl rfl) ?_
  refine mb_l_cons (ms_callv (ci := 7) hX (y := 59) (y0 := yX7_ofFrame) (bytes := cX7_ofFrame) rfl (C := RX7) (T := TX7) (N := 7) rfl mq_L_63_X7_ofFrame mw_408 mw_409 mw_410 dL_law_963 (fun _ _ _ h => nomatch h) rfl) ?_
  refine mb_l_cons (ms_istore dL_law_966 rfl) ?_
  refine mb_l_cons (ms_aload_n dL_law_968 rfl rfl) ?_
  refine mb_l_cons (ms_bipush dL_law_969 rfl rfl) ?_
  refine mb_l_cons (ms_iload dL_law_971 rfl) ?_
  refine mb_l_cons (ms_iload dL_law_973 rfl) ?_
  refine mb_l_cons (ms_iconst dL_law_975 rfl rfl) ?_
  refine mb_l_cons (ms_iconst dL_law_976 rfl rfl) ?_
  refine mb_l_cons (ms_iconst dL_law_977 rfl rfl) ?_
  refine mb_l_cons (ms_callsw hX (y := 86) (y0 := yL_ask) (bytes := cL_ask) rfl mq_L_94_L_ask mw_450 mw_451 dL_law_978 rfl) ?_
  refine mb_l_cons (ms_iload dL_law_981 rfl) ?_
  refine mb_l_cons (ms_icmp_ne dL_law_983 rfl rfl) ?_
  refine mb_l_cons (ms_aload_n dL_law_986 rfl rfl) ?_
  refine mb_l_cons (ms_iload dL_law_987 rfl) ?_
  refine mb_l_cons (ms_iload dL_law_989 rfl) ?_
  refine mb_l_cons (ms_iconst dL_law_991 rfl rfl) ?_
  refine mb_l_cons (ms_callv (ci := 7) hX (y := 59) (y0 := yX7_ofFrame) (bytes := cX7_ofFrame) rfl (C := RX7) (T := TX7) (N := 7) rfl mq_L_63_X7_ofFrame mw_408 mw_409 mw_410 dL_law_992 (fun _ _ _ h => nomatch h) rfl) ?_
  refine mb_l_cons (ms_if_ne dL_law_995 rfl rfl) ?_
  refine mb_l_cons (ms_aload_n dL_law_998 rfl rfl) ?_
  refine mb_l_cons (ms_iload dL_law_999 rfl) ?_
  refine mb_l_cons (ms_iload dL_law_1001 rfl) ?_
  refine mb_l_cons (ms_iconst dL_law_1003 rfl rfl) ?_
  refine mb_l_cons (ms_callv (ci := 7) hX (y := 59) (y0 := yX7_ofFrame) (bytes := cX7_ofFrame) rfl (C := RX7) (T := TX7) (N := 7) rfl mq_L_63_X7_ofFrame mw_408 mw_409 mw_410 dL_law_1004 (fun _ _ _ h => nomatch h) rfl) ?_
  refine mb_l_cons (ms_iload dL_law_1007 rfl) ?_
  refine mb_l_cons (ms_iconst dL_law_1009 rfl rfl) ?_
  refine mb_l_cons (ms_iadd dL_law_1010 rfl) ?_
  refine mb_l_cons (ms_icmp_ne dL_law_1011 rfl rfl) ?_
  refine mb_l_cons (ms_aload_n dL_law_1014 rfl rfl) ?_
  refine mb_l_cons (ms_iconst dL_law_1015 rfl rfl) ?_
  refine mb_l_cons (ms_callv (ci := 7) hX (y := 61) (y0 := yX7_count) (bytes := cX7_count) rfl (C := RX7) (T := TX7) (N := 7) rfl mq_L_104_X7_count mw_430 mw_431 mw_432 dL_law_1016 (fun _ _ _ h => nomatch h) rfl) ?_
  refine mb_l_cons (ms_iload dL_law_1019 rfl) ?_
  refine mb_l_cons (ms_iconst dL_law_1021 rfl rfl) ?_
  refine mb_l_cons (ms_iadd dL_law_1022 rfl) ?_
  refine mb_l_cons (ms_icmp_ne dL_law_1023 rfl rfl) ?_
  refine mb_l_cons (ms_iconst dL_law_1026 rfl rfl) ?_
  refine mb_l_cons (ms_goto dL_law_1027 rfl) ?_
  refine mb_l_cons (ms_iconst dL_law_1030 rfl rfl) ?_
  refine mb_l_cons (ms_istore dL_law_1031 rfl) ?_
  refine mb_l_cons (ms_goto dL_law_1033 rfl) ?_
  refine mb_l_cons (ms_iload dL_law_1036 rfl) ?_
  refine mb_l_cons (ms_bipush dL_law_1038 rfl rfl) ?_
  refine mb_l_cons (ms_icmp_ge dL_law_1040 rfl rfl) ?_
  refine mb_l_cons (ms_iinc dL_law_1043 rfl rfl) ?_
  refine mb_l_cons (ms_aload_n dL_law_1046 rfl rfl) ?_
  refine mb_l_cons (ms_iload dL_law_1047 rfl) ?_
  refine mb_l_cons (ms_aload dL_law_1049 rfl) ?_
  refine mb_l_cons (ms_iload dL_law_1051 rfl) ?_
  refine mb_l_cons (ms_iald hX dL_law_1053 rfl) ?_
  refine mb_l_cons (ms_iload dL_law_1054 rfl) ?_
  refine mb_l_cons (ms_calls hX (y := 89) (y0 := yL_areFrames) (bytes := cL_areFrames) rfl mq_L_107_L_areFrames mw_654 mw_655 dL_law_1056 rfl) ?_
  refine mb_l_cons (ms_istore dL_law_1059 rfl) ?_
  refine mb_l_cons (ms_iload dL_law_1061 rfl) ?_
  refine mb_l_cons (ms_if_eq dL_law_1063 rfl rfl) ?_
  refine mb_l_cons (ms_iload dL_law_1066 rfl) ?_
  refine mb_l_cons (ms_iconst dL_law_1068 rfl rfl) ?_
  refine mb_l_cons (ms_iand dL_law_1069 rfl) ?_
  refine mb_l_cons (ms_if_le dL_law_1070 rfl rfl) ?_
  refine mb_l_cons (ms_aload_n dL_law_1073 rfl rfl) ?_
  refine mb_l_cons (ms_iconst dL_law_1074 rfl rfl) ?_
  refine mb_l_cons (ms_callv (ci := 7) hX (y := 61) (y0 := yX7_count) (bytes := cX7_count) rfl (C := RX7) (T := TX7) (N := 7) rfl mq_L_104_X7_count mw_430 mw_431 mw_432 dL_law_1075 (fun _ _ _ h => nomatch h) rfl) ?_
  refine mb_l_cons (ms_istore dL_law_1078 rfl) ?_
  refine mb_l_cons (ms_aload_n dL_law_1080 rfl rfl) ?_
  refine mb_l_cons (ms_iload dL_law_1081 rfl) ?_
  refine mb_l_cons (ms_callv (ci := 7) hX (y := 57) (y0 := yX7_needs) (bytes := cX7_needs) rfl (C := RX7) (T := TX7) (N := 7) rfl mq_L_75_X7_needs mw_385 mw_386 mw_387 dL_law_1083 (fun _ _ _ h => nomatch h) rfl) ?_
  refine mb_l_cons (ms_istore dL_law_1086 rfl) ?_
  refine mb_l_cons (ms_aload_n dL_law_1088 rfl rfl) ?_
  refine mb_l_cons (ms_iload dL_law_1089 rfl) ?_
  refine mb_l_cons (ms_callv (ci := 7) hX (y := 55) (y0 := yX7_render) (bytes := cX7_render) rfl (C := RX7) (T := TX7) (N := 7) rfl mq_L_111_X7_render mw_327 mw_328 mw_329 dL_law_1091 (fun _ _ _ h => nomatch h) rfl) ?_
  refine mb_l_cons (ms_iload dL_law_1094 rfl) ?_
  refine mb_l_cons (ms_icmp_ne dL_law_1096 rfl rfl) ?_
  refine mb_l_cons (ms_aload_n dL_law_1099 rfl rfl) ?_
  refine mb_l_cons (ms_iload dL_law_1100 rfl) ?_
  refine mb_l_cons (ms_callv (ci := 7) hX (y := 57) (y0 := yX7_needs) (bytes := cX7_needs) rfl (C := RX7) (T := TX7) (N := 7) rfl mq_L_75_X7_needs mw_385 mw_386 mw_387 dL_law_1102 (fun _ _ _ h => nomatch h) rfl) ?_
  refine mb_l_cons (ms_if_ne dL_law_1105 rfl rfl) ?_
  refine mb_l_cons (ms_aload_n dL_law_1108 rfl rfl) ?_
  refine mb_l_cons (ms_iload dL_law_1109 rfl) ?_
  refine mb_l_cons (ms_callv (ci := 7) hX (y := 58) (y0 := yX7_mixes) (bytes := cX7_mixes) rfl (C := RX7) (T := TX7) (N := 7) rfl mq_L_78_X7_mixes mw_393 mw_394 mw_395 dL_law_1111 (fun _ _ _ h => nomatch h) rfl) ?_
  refine mb_l_cons (ms_if_ne dL_law_1114 rfl rfl) ?_
  refine mb_l_cons (ms_aload_n dL_law_1117 rfl rfl) ?_
  refine mb_l_cons (ms_iload dL_law_1118 rfl) ?_
  refine mb_l_cons (ms_callv (ci := 7) hX (y := 55) (y0 := yX7_render) (bytes := cX7_render) rfl (C := RX7) (T := TX7) (N := 7) rfl mq_L_111_X7_render mw_327 mw_328 mw_329 dL_law_1120 (fun _ _ _ h => nomatch h) rfl) ?_
  refine mb_l_cons (ms_if_ne dL_law_1123 rfl rfl) ?_
  refine mb_l_cons (ms_aload_n dL_law_1126 rfl rfl) ?_
  refine mb_l_cons (ms_iconst dL_law_1127 rfl rfl) ?_
  refine mb_l_cons (ms_callv (ci := 7) hX (y := 61) (y0 := yX7_count) (bytes := cX7_count) rfl (C := RX7) (T := TX7) (N := 7) rfl mq_L_104_X7_count mw_430 mw_431 mw_432 dL_law_1128 (fun _ _ _ h => nomatch h) rfl) ?_
  refine mb_l_cons (ms_iload dL_law_1131 rfl) ?_
  refine mb_l_cons (ms_iload dL_law_1133 rfl) ?_
  refine mb_l_cons (ms_iadd dL_law_1135 rfl) ?_
  refine mb_l_cons (ms_icmp_ne dL_law_1136 rfl rfl) ?_
  refine mb_l_cons (ms_aload_n dL_law_1139 rfl rfl) ?_
  refine mb_l_cons (ms_iload dL_law_1140 rfl) ?_
  refine mb_l_cons (ms_aload dL_law_1142 rfl) ?_
  refine mb_l_cons (ms_iload dL_law_1144 rfl) ?_
  refine mb_l_cons (ms_iald hX dL_law_1146 rfl) ?_
  refine mb_l_cons (ms_iload dL_law_1147 rfl) ?_
  refine mb_l_cons (ms_calls hX (y := 89) (y0 := yL_areFrames) (bytes := cL_areFrames) rfl mq_L_107_L_areFrames mw_654 mw_655 dL_law_1149 rfl) ?_
  refine mb_l_cons (ms_if_eq dL_law_1152 rfl rfl) ?_
  refine mb_l_cons (ms_iconst dL_law_1155 rfl rfl) ?_
  refine mb_l_cons (ms_goto dL_law_1156 rfl) ?_
  refine mb_l_cons (ms_iconst dL_law_1159 rfl rfl) ?_
  refine mb_l_cons (ms_istore dL_law_1160 rfl) ?_
  refine mb_l_cons (ms_aload dL_law_1162 rfl) ?_
  refine mb_l_cons (ms_iload dL_law_1164 rfl) ?_
  refine mb_l_cons (ms_iald hX dL_law_1166 rfl) ?_
  refine mb_l_cons (ms_if_ne dL_law_1167 rfl rfl) ?_
  refine mb_l_cons (ms_iconst dL_law_1170 rfl rfl) ?_
  refine mb_l_cons (ms_goto dL_law_1171 rfl) ?_
  refine mb_l_cons (ms_iload dL_law_1174 rfl) ?_
  refine mb_l_cons (ms_iconst dL_law_1176 rfl rfl) ?_
  refine mb_l_cons (ms_ishr dL_law_1177 rfl) ?_
  refine mb_l_cons (ms_aload dL_law_1178 rfl) ?_
  refine mb_l_cons (ms_iload dL_law_1180 rfl) ?_
  refine mb_l_cons (ms_iald hX dL_law_1182 rfl) ?_
  refine mb_l_cons (ms_irem dL_law_1183 rfl) ?_
  refine mb_l_cons (ms_istore dL_law_1184 rfl) ?_
  refine mb_l_cons (ms_iload dL_law_1186 rfl) ?_
  refine mb_l_cons (ms_if_eq dL_law_1188 rfl rfl) ?_
  refine mb_l_cons (ms_iload dL_law_1191 rfl) ?_
  refine mb_l_cons (ms_if_lt dL_law_1193 rfl rfl) ?_
  refine mb_l_cons (ms_aload_n dL_law_1196 rfl rfl) ?_
  refine mb_l_cons (ms_iload dL_law_1197 rfl) ?_
  refine mb_l_cons (ms_iload dL_law_1199 rfl) ?_
  refine mb_l_cons (ms_aload_n dL_law_1201 rfl rfl) ?_
  refine mb_l_cons (ms_bipush dL_law_1202 rfl rfl) ?_
  refine mb_l_cons (ms_iload dL_law_1204 rfl) ?_
  refine mb_l_cons (ms_imul dL_law_1206 rfl) ?_
  refine mb_l_cons (ms_iload dL_law_1207 rfl) ?_
  refine mb_l_cons (ms_iadd dL_law_1209 rfl) ?_
  refine mb_l_cons (ms_iald hX dL_law_1210 rfl) ?_
  refine mb_l_cons (ms_calls hX (y := 88) (y0 := yL_poses) (bytes := cL_poses) rfl mq_L_100_L_poses mw_651 mw_652 dL_law_1211 rfl) ?_
  refine mb_l_cons (ms_aload_n dL_law_1214 rfl rfl) ?_
  refine mb_l_cons (ms_bipush dL_law_1215 rfl rfl) ?_
  refine mb_l_cons (ms_iload dL_law_1217 rfl) ?_
  refine mb_l_cons (ms_imul dL_law_1219 rfl) ?_
  refine mb_l_cons (ms_iload dL_law_1220 rfl) ?_
  refine mb_l_cons (ms_iadd dL_law_1222 rfl) ?_
  refine mb_l_cons (ms_iald hX dL_law_1223 rfl) ?_
  refine mb_l_cons (ms_icmp_ne dL_law_1224 rfl rfl) ?_
  refine mb_l_cons (ms_aload_n dL_law_1227 rfl rfl) ?_
  refine mb_l_cons (ms_iconst dL_law_1228 rfl rfl) ?_
  refine mb_l_cons (ms_callv (ci := 7) hX (y := 61) (y0 := yX7_count) (bytes := cX7_count) rfl (C := RX7) (T := TX7) (N := 7) rfl mq_L_104_X7_count mw_430 mw_431 mw_432 dL_law_1229 (fun _ _ _ h => nomatch h) rfl) ?_
  refine mb_l_cons (ms_aload dL_law_1232 rfl) ?_
  refine mb_l_cons (ms_iconst dL_law_1234 rfl rfl) ?_
  refine mb_l_cons (ms_iald hX dL_law_1235 rfl) ?_
  refine mb_l_cons (ms_aload dL_law_1236 rfl) ?_
  refine mb_l_cons (ms_iconst dL_law_1238 rfl rfl) ?_
  refine mb_l_cons (ms_iald hX dL_law_1239 rfl) ?_
  refine mb_l_cons (ms_iadd dL_law_1240 rfl) ?_
  refine mb_l_cons (ms_icmp_ne dL_law_1241 rfl rfl) ?_
  refine mb_l_cons (ms_aload_n dL_law_1244 rfl rfl) ?_
  refine mb_l_cons (ms_iconst dL_law_1245 rfl rfl) ?_
  refine mb_l_cons (ms_callv (ci := 7) hX (y := 61) (y0 := yX7_count) (bytes := cX7_count) rfl (C := RX7) (T := TX7) (N := 7) rfl mq_L_104_X7_count mw_430 mw_431 mw_432 dL_law_1246 (fun _ _ _ h => nomatch h) rfl) ?_
  refine mb_l_cons (ms_aload dL_law_1249 rfl) ?_
  refine mb_l_cons (ms_iconst dL_law_1251 rfl rfl) ?_
  refine mb_l_cons (ms_iald hX dL_law_1252 rfl) ?_
  refine mb_l_cons (ms_aload dL_law_1253 rfl) ?_
  refine mb_l_cons (ms_iconst dL_law_1255 rfl rfl) ?_
  refine mb_l_cons (ms_iald hX dL_law_1256 rfl) ?_
  refine mb_l_cons (ms_iadd dL_law_1257 rfl) ?_
  refine mb_l_cons (ms_icmp_ne dL_law_1258 rfl rfl) ?_
  refine mb_l_cons (ms_iconst dL_law_1261 rfl rfl) ?_
  refine mb_l_cons (ms_goto dL_law_1262 rfl) ?_
  refine mb_l_cons (ms_iconst dL_law_1265 rfl rfl) ?_
  refine mb_l_cons (ms_istore dL_law_1266 rfl) ?_
  refine mb_l_cons (ms_iinc dL_law_1268 rfl rfl) ?_
  refine mb_l_cons (ms_goto dL_law_1271 rfl) ?_
  refine mb_l_cons (ms_iload dL_law_1274 rfl) ?_
  refine mb_l_cons (ms_zret dL_law_1276 rfl) ?_
  exact mb_l_nil
end MBX
