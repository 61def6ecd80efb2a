/-! every row of every method is sound -/
section MBX
variable {l : Launch} {D : va_G} {cT : Nat → ClassId} {s0 : State} {args0 : Array Value}
theorem mr_X7_init (hX : mb_Fx l D cT s0 args0) : ∀ pc i, mb_look mc_X7_init pc = some i → mb_Snd l D cT s0 mb_mt RX7 "<init>" cX7_init 1 none [] pc i := by
  unfold mc_X7_init
  refine mb_l_cons (ms_aload_n dX7_init_0 rfl rfl) ?_
  refine mb_l_cons (ms_oinit hX dX7_init_1 rfl mw_42 mw_43 mw_objcode) ?_
  refine mb_l_cons (ms_aload_n dX7_init_4 rfl rfl) ?_
  refine mb_l_cons (ms_bipush dX7_init_5 rfl rfl) ?_
  refine mb_l_cons (ms_newq (ci := 0) hX (C := RX0) rfl mw_45 mw_46 dX7_init_7 rfl) ?_
  refine mb_l_cons (ms_putF (ci := 7) (kf := 0) (z := 2) hX (C := RX7) (T := TX7) (N := 7) rfl (by decide) mu_X7 tyX7 tyX7_ok nmX7 (Or.inr (Or.inr ⟨rfl, Or.inr ⟨_, rfl⟩⟩)) rfl rfl rfl mw_51 dX7_init_10 rfl) ?_
  refine mb_l_cons (ms_aload_n dX7_init_13 rfl rfl) ?_
  refine mb_l_cons (ms_bipush dX7_init_14 rfl rfl) ?_
  refine mb_l_cons (ms_newq (ci := 6) hX (C := RX6) rfl mw_47 mw_48 dX7_init_16 rfl) ?_
  refine mb_l_cons (ms_putF (ci := 7) (kf := 1) (z := 2) hX (C := RX7) (T := TX7) (N := 7) rfl (by decide) mu_X7 tyX7 tyX7_ok nmX7 (Or.inr (Or.inr ⟨rfl, Or.inr ⟨_, rfl⟩⟩)) rfl rfl rfl mw_52 dX7_init_19 rfl) ?_
  refine mb_l_cons (ms_aload_n dX7_init_22 rfl rfl) ?_
  refine mb_l_cons (ms_bipush dX7_init_23 rfl rfl) ?_
  refine mb_l_cons (ms_newq (ci := 4) hX (C := RX4) rfl mw_49 mw_50 dX7_init_25 rfl) ?_
  refine mb_l_cons (ms_putF (ci := 7) (kf := 2) (z := 2) hX (C := RX7) (T := TX7) (N := 7) rfl (by decide) mu_X7 tyX7 tyX7_ok nmX7 (Or.inr (Or.inr ⟨rfl, Or.inr ⟨_, rfl⟩⟩)) rfl rfl rfl mw_53 dX7_init_28 rfl) ?_
  refine mb_l_cons (ms_vret dX7_init_31 rfl) ?_
  exact mb_l_nil
theorem mr_X7_asset (hX : mb_Fx l D cT s0 args0) : ∀ pc i, mb_look mc_X7_asset pc = some i → mb_Snd l D cT s0 mb_mt RX7 "asset" cX7_asset 1 (some .int) [] pc i := by
  unfold mc_X7_asset
  refine mb_l_cons (ms_aload_n dX7_asset_0 rfl rfl) ?_
  refine mb_l_cons (ms_getf (ci := 7) (kf := 3) hX (C := RX7) (T := TX7) (N := 7) rfl (by decide) mu_X7 (Or.inl mw_54) dX7_asset_1 rfl) ?_
  refine mb_l_cons (ms_bipush dX7_asset_4 rfl rfl) ?_
  refine mb_l_cons (ms_icmp_lt dX7_asset_6 rfl rfl) ?_
  refine mb_l_cons (ms_thr ⟨(fun _ h => nomatch h), 31, 33, 35, "there are 8 assets", dX7_asset_9, dX7_asset_12, dX7_asset_13, dX7_asset_15, dX7_asset_18, ⟨mw_77, rfl⟩, mw_26, mw_118, mt_X7_35.1, mt_X7_35.2⟩) ?_
  refine mb_l_cons (ms_aload_n dX7_asset_19 rfl rfl) ?_
  refine mb_l_cons (ms_getf (ci := 7) (kf := 0) hX (C := RX7) (T := TX7) (N := 7) rfl (by decide) mu_X7 (Or.inl mw_51) dX7_asset_20 rfl) ?_
  refine mb_l_cons (ms_aload_n dX7_asset_23 rfl rfl) ?_
  refine mb_l_cons (ms_getf (ci := 7) (kf := 3) hX (C := RX7) (T := TX7) (N := 7) rfl (by decide) mu_X7 (Or.inl mw_54) dX7_asset_24 rfl) ?_
  refine mb_l_cons (ms_new (ci := 0) hX (C := RX0) (T := TX0) (N := 3) rfl mu_X0 tyX0 tyX0_ok mf_X0 rfl mw_45 mw_145 mw_27 dX7_asset_27 rfl) ?_
  refine mb_l_cons (ms_dup dX7_asset_30 rfl) ?_
  refine mb_l_cons (ms_callin hX (y := 0) (y0 := yX0_init) (bytes := cX0_init) rfl mq_X7_38_X0_init rfl mw_146 mw_147 dX7_asset_31 rfl) ?_
  refine mb_l_cons (ms_aast (ci := 0) hX (C := RX0) (T := TX0) (N := 3) rfl rfl dX7_asset_34 rfl) ?_
  refine mb_l_cons (ms_aload_n dX7_asset_35 rfl rfl) ?_
  refine mb_l_cons (ms_dup dX7_asset_36 rfl) ?_
  refine mb_l_cons (ms_getf (ci := 7) (kf := 3) hX (C := RX7) (T := TX7) (N := 7) rfl (by decide) mu_X7 (Or.inl mw_54) dX7_asset_37 rfl) ?_
  refine mb_l_cons (ms_dupx1 dX7_asset_40 rfl) ?_
  refine mb_l_cons (ms_iconst dX7_asset_41 rfl rfl) ?_
  refine mb_l_cons (ms_iadd dX7_asset_42 rfl) ?_
  refine mb_l_cons (ms_putf (ci := 7) (kf := 3) (z := 0) hX (C := RX7) (T := TX7) (N := 7) rfl (by decide) mu_X7 tyX7 tyX7_ok nmX7 (Or.inl ⟨rfl, rfl⟩) rfl (Or.inl mw_54) dX7_asset_43 rfl) ?_
  refine mb_l_cons (ms_iret dX7_asset_46 rfl) ?_
  exact mb_l_nil
theorem mr_X7_bone (hX : mb_Fx l D cT s0 args0) : ∀ pc i, mb_look mc_X7_bone pc = some i → mb_Snd l D cT s0 mb_mt RX7 "bone" cX7_bone 4 (some .int) [] pc i := by
  unfold mc_X7_bone
  refine mb_l_cons (ms_aload_n dX7_bone_0 rfl rfl) ?_
  refine mb_l_cons (ms_iload_n dX7_bone_1 rfl rfl) ?_
  refine mb_l_cons (ms_callv (ci := 7) hX (y := 62) (y0 := yX7_assetAt) (bytes := cX7_assetAt) rfl (C := RX7) (T := TX7) (N := 7) rfl mq_X7_39_X7_assetAt mw_194 mw_196 mw_2 dX7_bone_2 (fun _ _ _ h => nomatch h) rfl) ?_
  refine mb_l_cons (ms_astore_n dX7_bone_5 rfl rfl) ?_
  refine mb_l_cons (ms_aload_n dX7_bone_6 rfl rfl) ?_
  refine mb_l_cons (ms_ifnull dX7_bone_7 rfl rfl) ?_
  refine mb_l_cons (ms_iload_n dX7_bone_10 rfl rfl) ?_
  refine mb_l_cons (ms_iconst dX7_bone_11 rfl rfl) ?_
  refine mb_l_cons (ms_icmp_eq dX7_bone_12 rfl rfl) ?_
  refine mb_l_cons (ms_aload_n dX7_bone_15 rfl rfl) ?_
  refine mb_l_cons (ms_getf (ci := 0) (kf := 0) hX (C := RX0) (T := TX0) (N := 3) rfl (by decide) mu_X0 (Or.inr ⟨_, mw_175⟩) dX7_bone_16 rfl) ?_
  refine mb_l_cons (ms_iload_n dX7_bone_19 rfl rfl) ?_
  refine mb_l_cons (ms_callv (ci := 5) hX (y := 22) (y0 := yX5_hasBone) (bytes := cX5_hasBone) rfl (C := RX5) (T := TX5) (N := 4) rfl mq_X7_47_X5_hasBone mw_202 mw_203 mw_204 dX7_bone_20 (fun _ _ _ h => nomatch h) rfl) ?_
  refine mb_l_cons (ms_if_ne dX7_bone_23 rfl rfl) ?_
  refine mb_l_cons (ms_thr ⟨(fun _ h => nomatch h), 53, 55, 57, "no such asset or parent", dX7_bone_26, dX7_bone_29, dX7_bone_30, dX7_bone_32, dX7_bone_35, ⟨mw_206, rfl⟩, mw_32, mw_463, mt_X7_57.1, mt_X7_57.2⟩) ?_
  refine mb_l_cons (ms_aload_n dX7_bone_36 rfl rfl) ?_
  refine mb_l_cons (ms_getf (ci := 0) (kf := 0) hX (C := RX0) (T := TX0) (N := 3) rfl (by decide) mu_X0 (Or.inr ⟨_, mw_175⟩) dX7_bone_37 rfl) ?_
  refine mb_l_cons (ms_getf (ci := 5) (kf := 2) hX (C := RX5) (T := TX5) (N := 4) rfl (by decide) mu_X5 (Or.inr ⟨_, mw_161⟩) dX7_bone_40 rfl) ?_
  refine mb_l_cons (ms_bipush dX7_bone_43 rfl rfl) ?_
  refine mb_l_cons (ms_icmp_lt dX7_bone_45 rfl rfl) ?_
  refine mb_l_cons (ms_thr ⟨(fun _ h => nomatch h), 31, 61, 35, "the draft has 10 bones", dX7_bone_48, dX7_bone_51, dX7_bone_52, dX7_bone_54, dX7_bone_57, ⟨mw_77, rfl⟩, mw_26, mw_464, mt_X7_35.1, mt_X7_35.2⟩) ?_
  refine mb_l_cons (ms_aload_n dX7_bone_58 rfl rfl) ?_
  refine mb_l_cons (ms_getf (ci := 0) (kf := 0) hX (C := RX0) (T := TX0) (N := 3) rfl (by decide) mu_X0 (Or.inr ⟨_, mw_175⟩) dX7_bone_59 rfl) ?_
  refine mb_l_cons (ms_iload_n dX7_bone_62 rfl rfl) ?_
  refine mb_l_cons (ms_callv (ci := 5) hX (y := 24) (y0 := yX5_addBone) (bytes := cX5_addBone) rfl (C := RX5) (T := TX5) (N := 4) rfl mq_X7_63_X5_addBone mw_465 mw_466 mw_467 dX7_bone_63 (fun _ _ _ h => nomatch h) rfl) ?_
  refine mb_l_cons (ms_iret dX7_bone_66 rfl) ?_
  exact mb_l_nil
theorem mr_X7_key (hX : mb_Fx l D cT s0 args0) : ∀ pc i, mb_look mc_X7_key pc = some i → mb_Snd l D cT s0 mb_mt RX7 "key" cX7_key 7 (some .int) [] pc i := by
  unfold mc_X7_key
  refine mb_l_cons (ms_aload_n dX7_key_0 rfl rfl) ?_
  refine mb_l_cons (ms_iload_n dX7_key_1 rfl rfl) ?_
  refine mb_l_cons (ms_iload_n dX7_key_2 rfl rfl) ?_
  refine mb_l_cons (ms_callv (ci := 7) hX (y := 65) (y0 := yX7_draftCurve) (bytes := cX7_draftCurve) rfl (C := RX7) (T := TX7) (N := 7) rfl mq_X7_67_X7_draftCurve mw_496 mw_498 mw_17 dX7_key_3 (fun _ _ _ h => nomatch h) rfl) ?_
  refine mb_l_cons (ms_astore dX7_key_6 rfl) ?_
  refine mb_l_cons (ms_aload dX7_key_8 rfl) ?_
  refine mb_l_cons (ms_ifnonnull dX7_key_10 rfl rfl) ?_
  refine mb_l_cons (ms_thr ⟨(fun _ h => nomatch h), 53, 71, 57, "no such asset or bone", dX7_key_13, dX7_key_16, dX7_key_17, dX7_key_19, dX7_key_22, ⟨mw_206, rfl⟩, mw_32, mw_501, mt_X7_57.1, mt_X7_57.2⟩) ?_
  refine mb_l_cons (ms_iload_n dX7_key_23 rfl rfl) ?_
  refine mb_l_cons (ms_calls hX (y := 67) (y0 := yX7_isCurveFrame) (bytes := cX7_isCurveFrame) rfl mq_X7_73_X7_isCurveFrame mw_222 mw_223 dX7_key_24 rfl) ?_
  refine mb_l_cons (ms_if_eq dX7_key_27 rfl rfl) ?_
  refine mb_l_cons (ms_iload dX7_key_30 rfl) ?_
  refine mb_l_cons (ms_sipush dX7_key_32 rfl rfl) ?_
  refine mb_l_cons (ms_icmp_lt dX7_key_35 rfl rfl) ?_
  refine mb_l_cons (ms_iload dX7_key_38 rfl) ?_
  refine mb_l_cons (ms_sipush dX7_key_40 rfl rfl) ?_
  refine mb_l_cons (ms_icmp_gt dX7_key_43 rfl rfl) ?_
  refine mb_l_cons (ms_iload dX7_key_46 rfl) ?_
  refine mb_l_cons (ms_if_lt dX7_key_48 rfl rfl) ?_
  refine mb_l_cons (ms_iload dX7_key_51 rfl) ?_
  refine mb_l_cons (ms_iconst dX7_key_53 rfl rfl) ?_
  refine mb_l_cons (ms_icmp_le dX7_key_54 rfl rfl) ?_
  refine mb_l_cons (ms_thr ⟨(fun _ h => nomatch h), 76, 78, 80, "frame, value or goesOn is out of range", dX7_key_57, dX7_key_60, dX7_key_61, dX7_key_63, dX7_key_66, ⟨mw_225, rfl⟩, mw_29, mw_502, mt_X7_80.1, mt_X7_80.2⟩) ?_
  refine mb_l_cons (ms_aload dX7_key_67 rfl) ?_
  refine mb_l_cons (ms_iload_n dX7_key_69 rfl rfl) ?_
  refine mb_l_cons (ms_callv (ci := 2) hX (y := 9) (y0 := yX2_hasRoomFor) (bytes := cX2_hasRoomFor) rfl (C := RX2) (T := TX2) (N := 4) rfl mq_X7_81_X2_hasRoomFor mw_503 mw_504 mw_505 dX7_key_70 (fun _ _ _ h => nomatch h) rfl) ?_
  refine mb_l_cons (ms_if_ne dX7_key_73 rfl rfl) ?_
  refine mb_l_cons (ms_thr ⟨(fun _ h => nomatch h), 31, 86, 35, "the curve has 12 keys", dX7_key_76, dX7_key_79, dX7_key_80, dX7_key_82, dX7_key_85, ⟨mw_77, rfl⟩, mw_26, mw_511, mt_X7_35.1, mt_X7_35.2⟩) ?_
  refine mb_l_cons (ms_aload dX7_key_86 rfl) ?_
  refine mb_l_cons (ms_iload_n dX7_key_88 rfl rfl) ?_
  refine mb_l_cons (ms_iload dX7_key_89 rfl) ?_
  refine mb_l_cons (ms_iload dX7_key_91 rfl) ?_
  refine mb_l_cons (ms_callv (ci := 2) hX (y := 10) (y0 := yX2_put) (bytes := cX2_put) rfl (C := RX2) (T := TX2) (N := 4) rfl mq_X7_88_X2_put mw_512 mw_513 mw_514 dX7_key_93 (fun _ _ _ h => nomatch h) rfl) ?_
  refine mb_l_cons (ms_aload dX7_key_96 rfl) ?_
  refine mb_l_cons (ms_getf (ci := 2) (kf := 3) hX (C := RX2) (T := TX2) (N := 4) rfl (by decide) mu_X2 (Or.inr ⟨_, mw_478⟩) dX7_key_98 rfl) ?_
  refine mb_l_cons (ms_iret dX7_key_101 rfl) ?_
  exact mb_l_nil
theorem mr_X7_unkey (hX : mb_Fx l D cT s0 args0) : ∀ pc i, mb_look mc_X7_unkey pc = some i → mb_Snd l D cT s0 mb_mt RX7 "unkey" cX7_unkey 5 (some .boolean) [] pc i := by
  unfold mc_X7_unkey
  refine mb_l_cons (ms_aload_n dX7_unkey_0 rfl rfl) ?_
  refine mb_l_cons (ms_iload_n dX7_unkey_1 rfl rfl) ?_
  refine mb_l_cons (ms_iload_n dX7_unkey_2 rfl rfl) ?_
  refine mb_l_cons (ms_callv (ci := 7) hX (y := 65) (y0 := yX7_draftCurve) (bytes := cX7_draftCurve) rfl (C := RX7) (T := TX7) (N := 7) rfl mq_X7_67_X7_draftCurve mw_496 mw_498 mw_17 dX7_unkey_3 (fun _ _ _ h => nomatch h) rfl) ?_
  refine mb_l_cons (ms_astore dX7_unkey_6 rfl) ?_
  refine mb_l_cons (ms_aload dX7_unkey_8 rfl) ?_
  refine mb_l_cons (ms_ifnonnull dX7_unkey_10 rfl rfl) ?_
  refine mb_l_cons (ms_thr ⟨(fun _ h => nomatch h), 53, 71, 57, "no such asset or bone", dX7_unkey_13, dX7_unkey_16, dX7_unkey_17, dX7_unkey_19, dX7_unkey_22, ⟨mw_206, rfl⟩, mw_32, mw_501, mt_X7_57.1, mt_X7_57.2⟩) ?_
  refine mb_l_cons (ms_iload_n dX7_unkey_23 rfl rfl) ?_
  refine mb_l_cons (ms_calls hX (y := 67) (y0 := yX7_isCurveFrame) (bytes := cX7_isCurveFrame) rfl mq_X7_73_X7_isCurveFrame mw_222 mw_223 dX7_unkey_24 rfl) ?_
  refine mb_l_cons (ms_if_ne dX7_unkey_27 rfl rfl) ?_
  refine mb_l_cons (ms_thr ⟨(fun _ h => nomatch h), 76, 93, 80, "frame is out of range", dX7_unkey_30, dX7_unkey_33, dX7_unkey_34, dX7_unkey_36, dX7_unkey_39, ⟨mw_225, rfl⟩, mw_29, mw_234, mt_X7_80.1, mt_X7_80.2⟩) ?_
  refine mb_l_cons (ms_aload dX7_unkey_40 rfl) ?_
  refine mb_l_cons (ms_iload_n dX7_unkey_42 rfl rfl) ?_
  refine mb_l_cons (ms_callv (ci := 2) hX (y := 11) (y0 := yX2_take) (bytes := cX2_take) rfl (C := RX2) (T := TX2) (N := 4) rfl mq_X7_95_X2_take mw_525 mw_526 mw_527 dX7_unkey_43 (fun _ _ _ h => nomatch h) rfl) ?_
  refine mb_l_cons (ms_zret dX7_unkey_46 rfl) ?_
  exact mb_l_nil
theorem mr_X7_publish (hX : mb_Fx l D cT s0 args0) : ∀ pc i, mb_look mc_X7_publish pc = some i → mb_Snd l D cT s0 mb_mt RX7 "publish" cX7_publish 3 (some .int) [] pc i := by
  unfold mc_X7_publish
  refine mb_l_cons (ms_aload_n dX7_publish_0 rfl rfl) ?_
  refine mb_l_cons (ms_iload_n dX7_publish_1 rfl rfl) ?_
  refine mb_l_cons (ms_callv (ci := 7) hX (y := 62) (y0 := yX7_assetAt) (bytes := cX7_assetAt) rfl (C := RX7) (T := TX7) (N := 7) rfl mq_X7_39_X7_assetAt mw_194 mw_196 mw_2 dX7_publish_2 (fun _ _ _ h => nomatch h) rfl) ?_
  refine mb_l_cons (ms_astore_n dX7_publish_5 rfl rfl) ?_
  refine mb_l_cons (ms_aload_n dX7_publish_6 rfl rfl) ?_
  refine mb_l_cons (ms_ifnonnull dX7_publish_7 rfl rfl) ?_
  refine mb_l_cons (ms_thr ⟨(fun _ h => nomatch h), 53, 98, 57, "no such asset", dX7_publish_10, dX7_publish_13, dX7_publish_14, dX7_publish_16, dX7_publish_19, ⟨mw_206, rfl⟩, mw_32, mw_533, mt_X7_57.1, mt_X7_57.2⟩) ?_
  refine mb_l_cons (ms_aload_n dX7_publish_20 rfl rfl) ?_
  refine mb_l_cons (ms_getf (ci := 0) (kf := 2) hX (C := RX0) (T := TX0) (N := 3) rfl (by decide) mu_X0 (Or.inr ⟨_, mw_178⟩) dX7_publish_21 rfl) ?_
  refine mb_l_cons (ms_bipush dX7_publish_24 rfl rfl) ?_
  refine mb_l_cons (ms_icmp_ge dX7_publish_26 rfl rfl) ?_
  refine mb_l_cons (ms_aload_n dX7_publish_29 rfl rfl) ?_
  refine mb_l_cons (ms_getf (ci := 0) (kf := 0) hX (C := RX0) (T := TX0) (N := 3) rfl (by decide) mu_X0 (Or.inr ⟨_, mw_175⟩) dX7_publish_30 rfl) ?_
  refine mb_l_cons (ms_getf (ci := 5) (kf := 2) hX (C := RX5) (T := TX5) (N := 4) rfl (by decide) mu_X5 (Or.inr ⟨_, mw_161⟩) dX7_publish_33 rfl) ?_
  refine mb_l_cons (ms_if_ne dX7_publish_36 rfl rfl) ?_
  refine mb_l_cons (ms_thr ⟨(fun _ h => nomatch h), 31, 103, 35, "there are 12 versions, or the draft has no bones", dX7_publish_39, dX7_publish_42, dX7_publish_43, dX7_publish_45, dX7_publish_48, ⟨mw_77, rfl⟩, mw_26, mw_534, mt_X7_35.1, mt_X7_35.2⟩) ?_
  refine mb_l_cons (ms_aload_n dX7_publish_49 rfl rfl) ?_
  refine mb_l_cons (ms_callv (ci := 0) hX (y := 1) (y0 := yX0_addVersion) (bytes := cX0_addVersion) rfl (C := RX0) (T := TX0) (N := 3) rfl mq_X7_105_X0_addVersion mw_535 mw_536 mw_537 dX7_publish_50 (fun _ _ _ h => nomatch h) rfl) ?_
  refine mb_l_cons (ms_iret dX7_publish_53 rfl) ?_
  exact mb_l_nil
theorem mr_X7_pose (hX : mb_Fx l D cT s0 args0) : ∀ pc i, mb_look mc_X7_pose pc = some i → mb_Snd l D cT s0 mb_mt RX7 "pose" cX7_pose 6 (some .int) [] pc i := by
  unfold mc_X7_pose
  refine mb_l_cons (ms_aload_n dX7_pose_0 rfl rfl) ?_
  refine mb_l_cons (ms_iload_n dX7_pose_1 rfl rfl) ?_
  refine mb_l_cons (ms_iload_n dX7_pose_2 rfl rfl) ?_
  refine mb_l_cons (ms_callv (ci := 7) hX (y := 66) (y0 := yX7_rigOf) (bytes := cX7_rigOf) rfl (C := RX7) (T := TX7) (N := 7) rfl mq_X7_109_X7_rigOf mw_190 mw_192 mw_1 dX7_pose_3 (fun _ _ _ h => nomatch h) rfl) ?_
  refine mb_l_cons (ms_astore dX7_pose_6 rfl) ?_
  refine mb_l_cons (ms_aload dX7_pose_8 rfl) ?_
  refine mb_l_cons (ms_ifnull dX7_pose_10 rfl rfl) ?_
  refine mb_l_cons (ms_aload dX7_pose_13 rfl) ?_
  refine mb_l_cons (ms_iload_n dX7_pose_15 rfl rfl) ?_
  refine mb_l_cons (ms_callv (ci := 5) hX (y := 22) (y0 := yX5_hasBone) (bytes := cX5_hasBone) rfl (C := RX5) (T := TX5) (N := 4) rfl mq_X7_47_X5_hasBone mw_202 mw_203 mw_204 dX7_pose_16 (fun _ _ _ h => nomatch h) rfl) ?_
  refine mb_l_cons (ms_if_ne dX7_pose_19 rfl rfl) ?_
  refine mb_l_cons (ms_thr ⟨(fun _ h => nomatch h), 53, 113, 57, "no such asset, version or bone", dX7_pose_22, dX7_pose_25, dX7_pose_26, dX7_pose_28, dX7_pose_31, ⟨mw_206, rfl⟩, mw_32, mw_215, mt_X7_57.1, mt_X7_57.2⟩) ?_
  refine mb_l_cons (ms_iload dX7_pose_32 rfl) ?_
  refine mb_l_cons (ms_calls hX (y := 67) (y0 := yX7_isCurveFrame) (bytes := cX7_isCurveFrame) rfl mq_X7_73_X7_isCurveFrame mw_222 mw_223 dX7_pose_34 rfl) ?_
  refine mb_l_cons (ms_if_ne dX7_pose_37 rfl rfl) ?_
  refine mb_l_cons (ms_thr ⟨(fun _ h => nomatch h), 76, 93, 80, "frame is out of range", dX7_pose_40, dX7_pose_43, dX7_pose_44, dX7_pose_46, dX7_pose_49, ⟨mw_225, rfl⟩, mw_29, mw_234, mt_X7_80.1, mt_X7_80.2⟩) ?_
  refine mb_l_cons (ms_aload dX7_pose_50 rfl) ?_
  refine mb_l_cons (ms_iload_n dX7_pose_52 rfl rfl) ?_
  refine mb_l_cons (ms_iload dX7_pose_53 rfl) ?_
  refine mb_l_cons (ms_callv (ci := 5) hX (y := 28) (y0 := yX5_poseAt) (bytes := cX5_poseAt) rfl (C := RX5) (T := TX5) (N := 4) rfl mq_X7_115_X5_poseAt mw_241 mw_242 mw_243 dX7_pose_55 (fun _ _ _ h => nomatch h) rfl) ?_
  refine mb_l_cons (ms_iret dX7_pose_58 rfl) ?_
  exact mb_l_nil
theorem mr_X7_poseAnew (hX : mb_Fx l D cT s0 args0) : ∀ pc i, mb_look mc_X7_poseAnew pc = some i → mb_Snd l D cT s0 mb_mt RX7 "poseAnew" cX7_poseAnew 6 (some .int) [] pc i := by
  unfold mc_X7_poseAnew
  refine mb_l_cons (ms_aload_n dX7_poseAnew_0 rfl rfl) ?_
  refine mb_l_cons (ms_iload_n dX7_poseAnew_1 rfl rfl) ?_
  refine mb_l_cons (ms_iload_n dX7_poseAnew_2 rfl rfl) ?_
  refine mb_l_cons (ms_callv (ci := 7) hX (y := 66) (y0 := yX7_rigOf) (bytes := cX7_rigOf) rfl (C := RX7) (T := TX7) (N := 7) rfl mq_X7_109_X7_rigOf mw_190 mw_192 mw_1 dX7_poseAnew_3 (fun _ _ _ h => nomatch h) rfl) ?_
  refine mb_l_cons (ms_astore dX7_poseAnew_6 rfl) ?_
  refine mb_l_cons (ms_aload dX7_poseAnew_8 rfl) ?_
  refine mb_l_cons (ms_ifnull dX7_poseAnew_10 rfl rfl) ?_
  refine mb_l_cons (ms_aload dX7_poseAnew_13 rfl) ?_
  refine mb_l_cons (ms_iload_n dX7_poseAnew_15 rfl rfl) ?_
  refine mb_l_cons (ms_callv (ci := 5) hX (y := 22) (y0 := yX5_hasBone) (bytes := cX5_hasBone) rfl (C := RX5) (T := TX5) (N := 4) rfl mq_X7_47_X5_hasBone mw_202 mw_203 mw_204 dX7_poseAnew_16 (fun _ _ _ h => nomatch h) rfl) ?_
  refine mb_l_cons (ms_if_ne dX7_poseAnew_19 rfl rfl) ?_
  refine mb_l_cons (ms_thr ⟨(fun _ h => nomatch h), 53, 113, 57, "no such asset, version or bone", dX7_poseAnew_22, dX7_poseAnew_25, dX7_poseAnew_26, dX7_poseAnew_28, dX7_poseAnew_31, ⟨mw_206, rfl⟩, mw_32, mw_215, mt_X7_57.1, mt_X7_57.2⟩) ?_
  refine mb_l_cons (ms_iload dX7_poseAnew_32 rfl) ?_
  refine mb_l_cons (ms_calls hX (y := 67) (y0 := yX7_isCurveFrame) (bytes := cX7_isCurveFrame) rfl mq_X7_73_X7_isCurveFrame mw_222 mw_223 dX7_poseAnew_34 rfl) ?_
  refine mb_l_cons (ms_if_ne dX7_poseAnew_37 rfl rfl) ?_
  refine mb_l_cons (ms_thr ⟨(fun _ h => nomatch h), 76, 93, 80, "frame is out of range", dX7_poseAnew_40, dX7_poseAnew_43, dX7_poseAnew_44, dX7_poseAnew_46, dX7_poseAnew_49, ⟨mw_225, rfl⟩, mw_29, mw_234, mt_X7_80.1, mt_X7_80.2⟩) ?_
  refine mb_l_cons (ms_aload dX7_poseAnew_50 rfl) ?_
  refine mb_l_cons (ms_iload_n dX7_poseAnew_52 rfl rfl) ?_
  refine mb_l_cons (ms_iload dX7_poseAnew_53 rfl) ?_
  refine mb_l_cons (ms_callv (ci := 5) hX (y := 27) (y0 := yX5_poseUpwards) (bytes := cX5_poseUpwards) rfl (C := RX5) (T := TX5) (N := 4) rfl mq_X7_119_X5_poseUpwards mw_280 mw_250 mw_251 dX7_poseAnew_55 (fun _ _ _ h => nomatch h) rfl) ?_
  refine mb_l_cons (ms_iret dX7_poseAnew_58 rfl) ?_
  exact mb_l_nil
theorem mr_X7_ofAsset (hX : mb_Fx l D cT s0 args0) : ∀ pc i, mb_look mc_X7_ofAsset pc = some i → mb_Snd l D cT s0 mb_mt RX7 "ofAsset" cX7_ofAsset 4 (some .int) [] pc i := by
  unfold mc_X7_ofAsset
  refine mb_l_cons (ms_aload_n dX7_ofAsset_0 rfl rfl) ?_
  refine mb_l_cons (ms_iload_n dX7_ofAsset_1 rfl rfl) ?_
  refine mb_l_cons (ms_callv (ci := 7) hX (y := 62) (y0 := yX7_assetAt) (bytes := cX7_assetAt) rfl (C := RX7) (T := TX7) (N := 7) rfl mq_X7_39_X7_assetAt mw_194 mw_196 mw_2 dX7_ofAsset_2 (fun _ _ _ h => nomatch h) rfl) ?_
  refine mb_l_cons (ms_astore_n dX7_ofAsset_5 rfl rfl) ?_
  refine mb_l_cons (ms_aload_n dX7_ofAsset_6 rfl rfl) ?_
  refine mb_l_cons (ms_ifnonnull dX7_ofAsset_7 rfl rfl) ?_
  refine mb_l_cons (ms_thr ⟨(fun _ h => nomatch h), 53, 98, 57, "no such asset", dX7_ofAsset_10, dX7_ofAsset_13, dX7_ofAsset_14, dX7_ofAsset_16, dX7_ofAsset_19, ⟨mw_206, rfl⟩, mw_32, mw_533, mt_X7_57.1, mt_X7_57.2⟩) ?_
  refine mb_l_cons (ms_iload_n dX7_ofAsset_20 rfl rfl) ?_
  refine mb_l_cons (ms_tsw dX7_ofAsset_21 rfl rfl rfl) ?_
  refine mb_l_cons (ms_aload_n dX7_ofAsset_48 rfl rfl) ?_
  refine mb_l_cons (ms_getf (ci := 0) (kf := 0) hX (C := RX0) (T := TX0) (N := 3) rfl (by decide) mu_X0 (Or.inr ⟨_, mw_175⟩) dX7_ofAsset_49 rfl) ?_
  refine mb_l_cons (ms_getf (ci := 5) (kf := 2) hX (C := RX5) (T := TX5) (N := 4) rfl (by decide) mu_X5 (Or.inr ⟨_, mw_161⟩) dX7_ofAsset_52 rfl) ?_
  refine mb_l_cons (ms_iret dX7_ofAsset_55 rfl) ?_
  refine mb_l_cons (ms_aload_n dX7_ofAsset_56 rfl rfl) ?_
  refine mb_l_cons (ms_getf (ci := 0) (kf := 2) hX (C := RX0) (T := TX0) (N := 3) rfl (by decide) mu_X0 (Or.inr ⟨_, mw_178⟩) dX7_ofAsset_57 rfl) ?_
  refine mb_l_cons (ms_iret dX7_ofAsset_60 rfl) ?_
  refine mb_l_cons (ms_aload_n dX7_ofAsset_61 rfl rfl) ?_
  refine mb_l_cons (ms_iload_n dX7_ofAsset_62 rfl rfl) ?_
  refine mb_l_cons (ms_callv (ci := 7) hX (y := 79) (y0 := yX7_scenesThatCast) (bytes := cX7_scenesThatCast) rfl (C := RX7) (T := TX7) (N := 7) rfl mq_X7_122_X7_scenesThatCast mw_666 mw_668 mw_20 dX7_ofAsset_63 (fun _ _ _ h => nomatch h) rfl) ?_
  refine mb_l_cons (ms_iret dX7_ofAsset_66 rfl) ?_
  refine mb_l_cons (ms_thr ⟨(fun _ h => nomatch h), 53, 125, 57, "what is out of range", dX7_ofAsset_67, dX7_ofAsset_70, dX7_ofAsset_71, dX7_ofAsset_73, dX7_ofAsset_76, ⟨mw_206, rfl⟩, mw_32, mw_429, mt_X7_57.1, mt_X7_57.2⟩) ?_
  exact mb_l_nil
theorem mr_X7_scene (hX : mb_Fx l D cT s0 args0) : ∀ pc i, mb_look mc_X7_scene pc = some i → mb_Snd l D cT s0 mb_mt RX7 "scene" cX7_scene 2 (some .int) [] pc i := by
  unfold mc_X7_scene
  refine mb_l_cons (ms_iload_n dX7_scene_0 rfl rfl) ?_
  refine mb_l_cons (ms_iconst dX7_scene_1 rfl rfl) ?_
  refine mb_l_cons (ms_icmp_lt dX7_scene_2 rfl rfl) ?_
  refine mb_l_cons (ms_iload_n dX7_scene_5 rfl rfl) ?_
  refine mb_l_cons (ms_bipush dX7_scene_6 rfl rfl) ?_
  refine mb_l_cons (ms_icmp_le dX7_scene_8 rfl rfl) ?_
  refine mb_l_cons (ms_thr ⟨(fun _ h => nomatch h), 76, 127, 80, "frames is out of range", dX7_scene_11, dX7_scene_14, dX7_scene_15, dX7_scene_17, dX7_scene_20, ⟨mw_225, rfl⟩, mw_29, mw_285, mt_X7_80.1, mt_X7_80.2⟩) ?_
  refine mb_l_cons (ms_aload_n dX7_scene_21 rfl rfl) ?_
  refine mb_l_cons (ms_getf (ci := 7) (kf := 4) hX (C := RX7) (T := TX7) (N := 7) rfl (by decide) mu_X7 (Or.inl mw_55) dX7_scene_22 rfl) ?_
  refine mb_l_cons (ms_bipush dX7_scene_25 rfl rfl) ?_
  refine mb_l_cons (ms_icmp_lt dX7_scene_27 rfl rfl) ?_
  refine mb_l_cons (ms_thr ⟨(fun _ h => nomatch h), 31, 132, 35, "there are 8 scenes", dX7_scene_30, dX7_scene_33, dX7_scene_34, dX7_scene_36, dX7_scene_39, ⟨mw_77, rfl⟩, mw_26, mw_286, mt_X7_35.1, mt_X7_35.2⟩) ?_
  refine mb_l_cons (ms_aload_n dX7_scene_40 rfl rfl) ?_
  refine mb_l_cons (ms_getf (ci := 7) (kf := 1) hX (C := RX7) (T := TX7) (N := 7) rfl (by decide) mu_X7 (Or.inl mw_52) dX7_scene_41 rfl) ?_
  refine mb_l_cons (ms_aload_n dX7_scene_44 rfl rfl) ?_
  refine mb_l_cons (ms_getf (ci := 7) (kf := 4) hX (C := RX7) (T := TX7) (N := 7) rfl (by decide) mu_X7 (Or.inl mw_55) dX7_scene_45 rfl) ?_
  refine mb_l_cons (ms_new (ci := 6) hX (C := RX6) (T := TX6) (N := 4) rfl mu_X6 tyX6 tyX6_ok mf_X6 rfl mw_47 mw_287 mw_30 dX7_scene_48 rfl) ?_
  refine mb_l_cons (ms_dup dX7_scene_51 rfl) ?_
  refine mb_l_cons (ms_iload_n dX7_scene_52 rfl rfl) ?_
  refine mb_l_cons (ms_calli hX (y := 32) (y0 := yX6_init) (bytes := cX6_init) rfl mq_X7_134_X6_init rfl mw_288 mw_289 dX7_scene_53 rfl) ?_
  refine mb_l_cons (ms_aast (ci := 6) hX (C := RX6) (T := TX6) (N := 4) rfl rfl dX7_scene_56 rfl) ?_
  refine mb_l_cons (ms_aload_n dX7_scene_57 rfl rfl) ?_
  refine mb_l_cons (ms_dup dX7_scene_58 rfl) ?_
  refine mb_l_cons (ms_getf (ci := 7) (kf := 4) hX (C := RX7) (T := TX7) (N := 7) rfl (by decide) mu_X7 (Or.inl mw_55) dX7_scene_59 rfl) ?_
  refine mb_l_cons (ms_dupx1 dX7_scene_62 rfl) ?_
  refine mb_l_cons (ms_iconst dX7_scene_63 rfl rfl) ?_
  refine mb_l_cons (ms_iadd dX7_scene_64 rfl) ?_
  refine mb_l_cons (ms_putf (ci := 7) (kf := 4) (z := 0) hX (C := RX7) (T := TX7) (N := 7) rfl (by decide) mu_X7 tyX7 tyX7_ok nmX7 (Or.inl ⟨rfl, rfl⟩) rfl (Or.inl mw_55) dX7_scene_65 rfl) ?_
  refine mb_l_cons (ms_iret dX7_scene_68 rfl) ?_
  exact mb_l_nil
theorem mr_X7_cast (hX : mb_Fx l D cT s0 args0) : ∀ pc i, mb_look mc_X7_cast pc = some i → mb_Snd l D cT s0 mb_mt RX7 "cast" cX7_cast 7 (some .int) [] pc i := by
  unfold mc_X7_cast
  refine mb_l_cons (ms_aload_n dX7_cast_0 rfl rfl) ?_
  refine mb_l_cons (ms_iload_n dX7_cast_1 rfl rfl) ?_
  refine mb_l_cons (ms_callv (ci := 7) hX (y := 63) (y0 := yX7_sceneAt) (bytes := cX7_sceneAt) rfl (C := RX7) (T := TX7) (N := 7) rfl mq_X7_137_X7_sceneAt mw_331 mw_333 mw_3 dX7_cast_2 (fun _ _ _ h => nomatch h) rfl) ?_
  refine mb_l_cons (ms_astore dX7_cast_5 rfl) ?_
  refine mb_l_cons (ms_aload dX7_cast_7 rfl) ?_
  refine mb_l_cons (ms_ifnull dX7_cast_9 rfl rfl) ?_
  refine mb_l_cons (ms_aload_n dX7_cast_12 rfl rfl) ?_
  refine mb_l_cons (ms_iload_n dX7_cast_13 rfl rfl) ?_
  refine mb_l_cons (ms_iload_n dX7_cast_14 rfl rfl) ?_
  refine mb_l_cons (ms_callv (ci := 7) hX (y := 66) (y0 := yX7_rigOf) (bytes := cX7_rigOf) rfl (C := RX7) (T := TX7) (N := 7) rfl mq_X7_109_X7_rigOf mw_190 mw_192 mw_1 dX7_cast_15 (fun _ _ _ h => nomatch h) rfl) ?_
  refine mb_l_cons (ms_ifnonnull dX7_cast_18 rfl rfl) ?_
  refine mb_l_cons (ms_thr ⟨(fun _ h => nomatch h), 53, 141, 57, "no such scene, asset or version", dX7_cast_21, dX7_cast_24, dX7_cast_25, dX7_cast_27, dX7_cast_30, ⟨mw_206, rfl⟩, mw_32, mw_559, mt_X7_57.1, mt_X7_57.2⟩) ?_
  refine mb_l_cons (ms_iload dX7_cast_31 rfl) ?_
  refine mb_l_cons (ms_calls hX (y := 68) (y0 := yX7_canBeShown) (bytes := cX7_canBeShown) rfl mq_X7_143_X7_canBeShown mw_560 mw_247 dX7_cast_33 rfl) ?_
  refine mb_l_cons (ms_if_eq dX7_cast_36 rfl rfl) ?_
  refine mb_l_cons (ms_iload dX7_cast_39 rfl) ?_
  refine mb_l_cons (ms_iload dX7_cast_41 rfl) ?_
  refine mb_l_cons (ms_icmp_lt dX7_cast_43 rfl rfl) ?_
  refine mb_l_cons (ms_iload dX7_cast_46 rfl) ?_
  refine mb_l_cons (ms_calls hX (y := 68) (y0 := yX7_canBeShown) (bytes := cX7_canBeShown) rfl mq_X7_143_X7_canBeShown mw_560 mw_247 dX7_cast_48 rfl) ?_
  refine mb_l_cons (ms_if_ne dX7_cast_51 rfl rfl) ?_
  refine mb_l_cons (ms_thr ⟨(fun _ h => nomatch h), 76, 146, 80, "from or to is out of range", dX7_cast_54, dX7_cast_57, dX7_cast_58, dX7_cast_60, dX7_cast_63, ⟨mw_225, rfl⟩, mw_29, mw_561, mt_X7_80.1, mt_X7_80.2⟩) ?_
  refine mb_l_cons (ms_aload dX7_cast_64 rfl) ?_
  refine mb_l_cons (ms_iload_n dX7_cast_66 rfl rfl) ?_
  refine mb_l_cons (ms_iload_n dX7_cast_67 rfl rfl) ?_
  refine mb_l_cons (ms_iload dX7_cast_68 rfl) ?_
  refine mb_l_cons (ms_iload dX7_cast_70 rfl) ?_
  refine mb_l_cons (ms_callv (ci := 6) hX (y := 36) (y0 := yX6_setCasting) (bytes := cX6_setCasting) rfl (C := RX6) (T := TX6) (N := 4) rfl mq_X7_148_X6_setCasting mw_562 mw_563 mw_564 dX7_cast_72 (fun _ _ _ h => nomatch h) rfl) ?_
  refine mb_l_cons (ms_aload dX7_cast_75 rfl) ?_
  refine mb_l_cons (ms_getf (ci := 6) (kf := 3) hX (C := RX6) (T := TX6) (N := 4) rfl (by decide) mu_X6 (Or.inr ⟨_, mw_317⟩) dX7_cast_77 rfl) ?_
  refine mb_l_cons (ms_iret dX7_cast_80 rfl) ?_
  exact mb_l_nil
theorem mr_X7_cut (hX : mb_Fx l D cT s0 args0) : ∀ pc i, mb_look mc_X7_cut pc = some i → mb_Snd l D cT s0 mb_mt RX7 "cut" cX7_cut 5 (some .int) [] pc i := by
  unfold mc_X7_cut
  refine mb_l_cons (ms_aload_n dX7_cut_0 rfl rfl) ?_
  refine mb_l_cons (ms_iload_n dX7_cut_1 rfl rfl) ?_
  refine mb_l_cons (ms_callv (ci := 7) hX (y := 63) (y0 := yX7_sceneAt) (bytes := cX7_sceneAt) rfl (C := RX7) (T := TX7) (N := 7) rfl mq_X7_137_X7_sceneAt mw_331 mw_333 mw_3 dX7_cut_2 (fun _ _ _ h => nomatch h) rfl) ?_
  refine mb_l_cons (ms_astore dX7_cut_5 rfl) ?_
  refine mb_l_cons (ms_aload dX7_cut_7 rfl) ?_
  refine mb_l_cons (ms_ifnull dX7_cut_9 rfl rfl) ?_
  refine mb_l_cons (ms_aload dX7_cut_12 rfl) ?_
  refine mb_l_cons (ms_iload_n dX7_cut_14 rfl rfl) ?_
  refine mb_l_cons (ms_callv (ci := 6) hX (y := 33) (y0 := yX6_hasFrame) (bytes := cX6_hasFrame) rfl (C := RX6) (T := TX6) (N := 4) rfl mq_X7_155_X6_hasFrame mw_588 mw_341 mw_342 dX7_cut_15 (fun _ _ _ h => nomatch h) rfl) ?_
  refine mb_l_cons (ms_if_ne dX7_cut_18 rfl rfl) ?_
  refine mb_l_cons (ms_thr ⟨(fun _ h => nomatch h), 53, 158, 57, "no such scene or frame", dX7_cut_21, dX7_cut_24, dX7_cut_25, dX7_cut_27, dX7_cut_30, ⟨mw_206, rfl⟩, mw_32, mw_412, mt_X7_57.1, mt_X7_57.2⟩) ?_
  refine mb_l_cons (ms_iload_n dX7_cut_31 rfl rfl) ?_
  refine mb_l_cons (ms_iconst dX7_cut_32 rfl rfl) ?_
  refine mb_l_cons (ms_icmp_ge dX7_cut_33 rfl rfl) ?_
  refine mb_l_cons (ms_thr ⟨(fun _ h => nomatch h), 76, 160, 80, "many is below 1", dX7_cut_36, dX7_cut_39, dX7_cut_40, dX7_cut_42, dX7_cut_45, ⟨mw_225, rfl⟩, mw_29, mw_589, mt_X7_80.1, mt_X7_80.2⟩) ?_
  refine mb_l_cons (ms_iload_n dX7_cut_46 rfl rfl) ?_
  refine mb_l_cons (ms_aload dX7_cut_47 rfl) ?_
  refine mb_l_cons (ms_getf (ci := 6) (kf := 2) hX (C := RX6) (T := TX6) (N := 4) rfl (by decide) mu_X6 (Or.inr ⟨_, mw_315⟩) dX7_cut_49 rfl) ?_
  refine mb_l_cons (ms_iload_n dX7_cut_52 rfl rfl) ?_
  refine mb_l_cons (ms_isub dX7_cut_53 rfl) ?_
  refine mb_l_cons (ms_icmp_gt dX7_cut_54 rfl rfl) ?_
  refine mb_l_cons (ms_iload_n dX7_cut_57 rfl rfl) ?_
  refine mb_l_cons (ms_aload dX7_cut_58 rfl) ?_
  refine mb_l_cons (ms_getf (ci := 6) (kf := 2) hX (C := RX6) (T := TX6) (N := 4) rfl (by decide) mu_X6 (Or.inr ⟨_, mw_315⟩) dX7_cut_60 rfl) ?_
  refine mb_l_cons (ms_icmp_lt dX7_cut_63 rfl rfl) ?_
  refine mb_l_cons (ms_thr ⟨(fun _ h => nomatch h), 31, 163, 35, "there are not so many, or none would be left", dX7_cut_66, dX7_cut_69, dX7_cut_70, dX7_cut_72, dX7_cut_75, ⟨mw_77, rfl⟩, mw_26, mw_590, mt_X7_35.1, mt_X7_35.2⟩) ?_
  refine mb_l_cons (ms_aload dX7_cut_76 rfl) ?_
  refine mb_l_cons (ms_iload_n dX7_cut_78 rfl rfl) ?_
  refine mb_l_cons (ms_iload_n dX7_cut_79 rfl rfl) ?_
  refine mb_l_cons (ms_callv (ci := 6) hX (y := 37) (y0 := yX6_removeFrames) (bytes := cX6_removeFrames) rfl (C := RX6) (T := TX6) (N := 4) rfl mq_X7_165_X6_removeFrames mw_591 mw_592 mw_593 dX7_cut_80 (fun _ _ _ h => nomatch h) rfl) ?_
  refine mb_l_cons (ms_aload_n dX7_cut_83 rfl rfl) ?_
  refine mb_l_cons (ms_iload_n dX7_cut_84 rfl rfl) ?_
  refine mb_l_cons (ms_iload_n dX7_cut_85 rfl rfl) ?_
  refine mb_l_cons (ms_iload_n dX7_cut_86 rfl rfl) ?_
  refine mb_l_cons (ms_aload dX7_cut_87 rfl) ?_
  refine mb_l_cons (ms_getf (ci := 6) (kf := 2) hX (C := RX6) (T := TX6) (N := 4) rfl (by decide) mu_X6 (Or.inr ⟨_, mw_315⟩) dX7_cut_89 rfl) ?_
  refine mb_l_cons (ms_callv (ci := 7) hX (y := 76) (y0 := yX7_moveNotes) (bytes := cX7_moveNotes) rfl (C := RX7) (T := TX7) (N := 7) rfl mq_X7_169_X7_moveNotes mw_595 mw_597 mw_18 dX7_cut_92 (fun _ _ _ h => nomatch h) rfl) ?_
  refine mb_l_cons (ms_aload dX7_cut_95 rfl) ?_
  refine mb_l_cons (ms_getf (ci := 6) (kf := 2) hX (C := RX6) (T := TX6) (N := 4) rfl (by decide) mu_X6 (Or.inr ⟨_, mw_315⟩) dX7_cut_97 rfl) ?_
  refine mb_l_cons (ms_iret dX7_cut_100 rfl) ?_
  exact mb_l_nil
theorem mr_X7_note (hX : mb_Fx l D cT s0 args0) : ∀ pc i, mb_look mc_X7_note pc = some i → mb_Snd l D cT s0 mb_mt RX7 "note" cX7_note 4 (some .int) [] pc i := by
  unfold mc_X7_note
  refine mb_l_cons (ms_aload_n dX7_note_0 rfl rfl) ?_
  refine mb_l_cons (ms_iload_n dX7_note_1 rfl rfl) ?_
  refine mb_l_cons (ms_callv (ci := 7) hX (y := 63) (y0 := yX7_sceneAt) (bytes := cX7_sceneAt) rfl (C := RX7) (T := TX7) (N := 7) rfl mq_X7_137_X7_sceneAt mw_331 mw_333 mw_3 dX7_note_2 (fun _ _ _ h => nomatch h) rfl) ?_
  refine mb_l_cons (ms_astore_n dX7_note_5 rfl rfl) ?_
  refine mb_l_cons (ms_aload_n dX7_note_6 rfl rfl) ?_
  refine mb_l_cons (ms_ifnull dX7_note_7 rfl rfl) ?_
  refine mb_l_cons (ms_aload_n dX7_note_10 rfl rfl) ?_
  refine mb_l_cons (ms_iload_n dX7_note_11 rfl rfl) ?_
  refine mb_l_cons (ms_callv (ci := 6) hX (y := 33) (y0 := yX6_hasFrame) (bytes := cX6_hasFrame) rfl (C := RX6) (T := TX6) (N := 4) rfl mq_X7_155_X6_hasFrame mw_588 mw_341 mw_342 dX7_note_12 (fun _ _ _ h => nomatch h) rfl) ?_
  refine mb_l_cons (ms_if_ne dX7_note_15 rfl rfl) ?_
  refine mb_l_cons (ms_thr ⟨(fun _ h => nomatch h), 53, 158, 57, "no such scene or frame", dX7_note_18, dX7_note_21, dX7_note_22, dX7_note_24, dX7_note_27, ⟨mw_206, rfl⟩, mw_32, mw_412, mt_X7_57.1, mt_X7_57.2⟩) ?_
  refine mb_l_cons (ms_aload_n dX7_note_28 rfl rfl) ?_
  refine mb_l_cons (ms_getf (ci := 7) (kf := 5) hX (C := RX7) (T := TX7) (N := 7) rfl (by decide) mu_X7 (Or.inl mw_56) dX7_note_29 rfl) ?_
  refine mb_l_cons (ms_bipush dX7_note_32 rfl rfl) ?_
  refine mb_l_cons (ms_icmp_lt dX7_note_34 rfl rfl) ?_
  refine mb_l_cons (ms_thr ⟨(fun _ h => nomatch h), 31, 175, 35, "there are 40 notes", dX7_note_37, dX7_note_40, dX7_note_41, dX7_note_43, dX7_note_46, ⟨mw_77, rfl⟩, mw_26, mw_607, mt_X7_35.1, mt_X7_35.2⟩) ?_
  refine mb_l_cons (ms_aload_n dX7_note_47 rfl rfl) ?_
  refine mb_l_cons (ms_getf (ci := 7) (kf := 2) hX (C := RX7) (T := TX7) (N := 7) rfl (by decide) mu_X7 (Or.inl mw_53) dX7_note_48 rfl) ?_
  refine mb_l_cons (ms_aload_n dX7_note_51 rfl rfl) ?_
  refine mb_l_cons (ms_getf (ci := 7) (kf := 5) hX (C := RX7) (T := TX7) (N := 7) rfl (by decide) mu_X7 (Or.inl mw_56) dX7_note_52 rfl) ?_
  refine mb_l_cons (ms_new (ci := 4) hX (C := RX4) (T := TX4) (N := 4) rfl mu_X4 tyX4 tyX4_ok mf_X4 rfl mw_49 mw_608 mw_36 dX7_note_55 rfl) ?_
  refine mb_l_cons (ms_dup dX7_note_58 rfl) ?_
  refine mb_l_cons (ms_iload_n dX7_note_59 rfl rfl) ?_
  refine mb_l_cons (ms_iload_n dX7_note_60 rfl rfl) ?_
  refine mb_l_cons (ms_calli hX (y := 19) (y0 := yX4_init) (bytes := cX4_init) rfl mq_X7_177_X4_init rfl mw_609 mw_610 dX7_note_61 rfl) ?_
  refine mb_l_cons (ms_aast (ci := 4) hX (C := RX4) (T := TX4) (N := 4) rfl rfl dX7_note_64 rfl) ?_
  refine mb_l_cons (ms_aload_n dX7_note_65 rfl rfl) ?_
  refine mb_l_cons (ms_dup dX7_note_66 rfl) ?_
  refine mb_l_cons (ms_getf (ci := 7) (kf := 5) hX (C := RX7) (T := TX7) (N := 7) rfl (by decide) mu_X7 (Or.inl mw_56) dX7_note_67 rfl) ?_
  refine mb_l_cons (ms_dupx1 dX7_note_70 rfl) ?_
  refine mb_l_cons (ms_iconst dX7_note_71 rfl rfl) ?_
  refine mb_l_cons (ms_iadd dX7_note_72 rfl) ?_
  refine mb_l_cons (ms_putf (ci := 7) (kf := 5) (z := 0) hX (C := RX7) (T := TX7) (N := 7) rfl (by decide) mu_X7 tyX7 tyX7_ok nmX7 (Or.inl ⟨rfl, rfl⟩) rfl (Or.inl mw_56) dX7_note_73 rfl) ?_
  refine mb_l_cons (ms_iret dX7_note_76 rfl) ?_
  exact mb_l_nil
theorem mr_X7_settle (hX : mb_Fx l D cT s0 args0) : ∀ pc i, mb_look mc_X7_settle pc = some i → mb_Snd l D cT s0 mb_mt RX7 "settle" cX7_settle 3 (some .int) [] pc i := by
  unfold mc_X7_settle
  refine mb_l_cons (ms_aload_n dX7_settle_0 rfl rfl) ?_
  refine mb_l_cons (ms_iload_n dX7_settle_1 rfl rfl) ?_
  refine mb_l_cons (ms_callv (ci := 7) hX (y := 64) (y0 := yX7_noteAt) (bytes := cX7_noteAt) rfl (C := RX7) (T := TX7) (N := 7) rfl mq_X7_179_X7_noteAt mw_425 mw_427 mw_12 dX7_settle_2 (fun _ _ _ h => nomatch h) rfl) ?_
  refine mb_l_cons (ms_astore_n dX7_settle_5 rfl rfl) ?_
  refine mb_l_cons (ms_aload_n dX7_settle_6 rfl rfl) ?_
  refine mb_l_cons (ms_ifnonnull dX7_settle_7 rfl rfl) ?_
  refine mb_l_cons (ms_thr ⟨(fun _ h => nomatch h), 53, 183, 57, "no such note", dX7_settle_10, dX7_settle_13, dX7_settle_14, dX7_settle_16, dX7_settle_19, ⟨mw_206, rfl⟩, mw_32, mw_633, mt_X7_57.1, mt_X7_57.2⟩) ?_
  refine mb_l_cons (ms_aload_n dX7_settle_20 rfl rfl) ?_
  refine mb_l_cons (ms_getf (ci := 4) (kf := 3) hX (C := RX4) (T := TX4) (N := 4) rfl (by decide) mu_X4 (Or.inr ⟨_, mw_619⟩) dX7_settle_21 rfl) ?_
  refine mb_l_cons (ms_if_eq dX7_settle_24 rfl rfl) ?_
  refine mb_l_cons (ms_thr ⟨(fun _ h => nomatch h), 31, 189, 35, "the note was settled", dX7_settle_27, dX7_settle_30, dX7_settle_31, dX7_settle_33, dX7_settle_36, ⟨mw_77, rfl⟩, mw_26, mw_634, mt_X7_35.1, mt_X7_35.2⟩) ?_
  refine mb_l_cons (ms_aload_n dX7_settle_37 rfl rfl) ?_
  refine mb_l_cons (ms_iconst dX7_settle_38 rfl rfl) ?_
  refine mb_l_cons (ms_putf (ci := 4) (kf := 3) (z := 1) hX (C := RX4) (T := TX4) (N := 4) rfl (by decide) mu_X4 tyX4 tyX4_ok nmX4 (Or.inr (Or.inl ⟨rfl, rfl⟩)) rfl (Or.inr ⟨_, mw_619⟩) dX7_settle_39 rfl) ?_
  refine mb_l_cons (ms_aload_n dX7_settle_42 rfl rfl) ?_
  refine mb_l_cons (ms_aload_n dX7_settle_43 rfl rfl) ?_
  refine mb_l_cons (ms_getf (ci := 4) (kf := 0) hX (C := RX4) (T := TX4) (N := 4) rfl (by decide) mu_X4 (Or.inr ⟨_, mw_614⟩) dX7_settle_44 rfl) ?_
  refine mb_l_cons (ms_callv (ci := 7) hX (y := 77) (y0 := yX7_openNotesOfScene) (bytes := cX7_openNotesOfScene) rfl (C := RX7) (T := TX7) (N := 7) rfl mq_X7_194_X7_openNotesOfScene mw_635 mw_637 mw_19 dX7_settle_47 (fun _ _ _ h => nomatch h) rfl) ?_
  refine mb_l_cons (ms_iret dX7_settle_50 rfl) ?_
  exact mb_l_nil
theorem mr_X7_ofNote (hX : mb_Fx l D cT s0 args0) : ∀ pc i, mb_look mc_X7_ofNote pc = some i → mb_Snd l D cT s0 mb_mt RX7 "ofNote" cX7_ofNote 4 (some .int) [] pc i := by
  unfold mc_X7_ofNote
  refine mb_l_cons (ms_aload_n dX7_ofNote_0 rfl rfl) ?_
  refine mb_l_cons (ms_iload_n dX7_ofNote_1 rfl rfl) ?_
  refine mb_l_cons (ms_callv (ci := 7) hX (y := 64) (y0 := yX7_noteAt) (bytes := cX7_noteAt) rfl (C := RX7) (T := TX7) (N := 7) rfl mq_X7_179_X7_noteAt mw_425 mw_427 mw_12 dX7_ofNote_2 (fun _ _ _ h => nomatch h) rfl) ?_
  refine mb_l_cons (ms_astore_n dX7_ofNote_5 rfl rfl) ?_
  refine mb_l_cons (ms_aload_n dX7_ofNote_6 rfl rfl) ?_
  refine mb_l_cons (ms_ifnonnull dX7_ofNote_7 rfl rfl) ?_
  refine mb_l_cons (ms_thr ⟨(fun _ h => nomatch h), 53, 183, 57, "no such note", dX7_ofNote_10, dX7_ofNote_13, dX7_ofNote_14, dX7_ofNote_16, dX7_ofNote_19, ⟨mw_206, rfl⟩, mw_32, mw_633, mt_X7_57.1, mt_X7_57.2⟩) ?_
  refine mb_l_cons (ms_iload_n dX7_ofNote_20 rfl rfl) ?_
  refine mb_l_cons (ms_tsw dX7_ofNote_21 rfl rfl rfl) ?_
  refine mb_l_cons (ms_aload_n dX7_ofNote_52 rfl rfl) ?_
  refine mb_l_cons (ms_getf (ci := 4) (kf := 0) hX (C := RX4) (T := TX4) (N := 4) rfl (by decide) mu_X4 (Or.inr ⟨_, mw_614⟩) dX7_ofNote_53 rfl) ?_
  refine mb_l_cons (ms_iret dX7_ofNote_56 rfl) ?_
  refine mb_l_cons (ms_aload_n dX7_ofNote_57 rfl rfl) ?_
  refine mb_l_cons (ms_getf (ci := 4) (kf := 1) hX (C := RX4) (T := TX4) (N := 4) rfl (by decide) mu_X4 (Or.inr ⟨_, mw_616⟩) dX7_ofNote_58 rfl) ?_
  refine mb_l_cons (ms_iret dX7_ofNote_61 rfl) ?_
  refine mb_l_cons (ms_aload_n dX7_ofNote_62 rfl rfl) ?_
  refine mb_l_cons (ms_getf (ci := 4) (kf := 3) hX (C := RX4) (T := TX4) (N := 4) rfl (by decide) mu_X4 (Or.inr ⟨_, mw_619⟩) dX7_ofNote_63 rfl) ?_
  refine mb_l_cons (ms_if_eq dX7_ofNote_66 rfl rfl) ?_
  refine mb_l_cons (ms_iconst dX7_ofNote_69 rfl rfl) ?_
  refine mb_l_cons (ms_goto dX7_ofNote_70 rfl) ?_
  refine mb_l_cons (ms_iconst dX7_ofNote_73 rfl rfl) ?_
  refine mb_l_cons (ms_iret dX7_ofNote_74 rfl) ?_
  refine mb_l_cons (ms_aload_n dX7_ofNote_75 rfl rfl) ?_
  refine mb_l_cons (ms_getf (ci := 4) (kf := 2) hX (C := RX4) (T := TX4) (N := 4) rfl (by decide) mu_X4 (Or.inr ⟨_, mw_618⟩) dX7_ofNote_76 rfl) ?_
  refine mb_l_cons (ms_iret dX7_ofNote_79 rfl) ?_
  refine mb_l_cons (ms_thr ⟨(fun _ h => nomatch h), 53, 125, 57, "what is out of range", dX7_ofNote_80, dX7_ofNote_83, dX7_ofNote_84, dX7_ofNote_86, dX7_ofNote_89, ⟨mw_206, rfl⟩, mw_32, mw_429, mt_X7_57.1, mt_X7_57.2⟩) ?_
  exact mb_l_nil
theorem mr_X7_render (hX : mb_Fx l D cT s0 args0) : ∀ pc i, mb_look mc_X7_render pc = some i → mb_Snd l D cT s0 mb_mt RX7 "render" cX7_render 6 (some .int) [] pc i := by
  unfold mc_X7_render
  refine mb_l_cons (ms_aload_n dX7_render_0 rfl rfl) ?_
  refine mb_l_cons (ms_iload_n dX7_render_1 rfl rfl) ?_
  refine mb_l_cons (ms_callv (ci := 7) hX (y := 63) (y0 := yX7_sceneAt) (bytes := cX7_sceneAt) rfl (C := RX7) (T := TX7) (N := 7) rfl mq_X7_137_X7_sceneAt mw_331 mw_333 mw_3 dX7_render_2 (fun _ _ _ h => nomatch h) rfl) ?_
  refine mb_l_cons (ms_astore_n dX7_render_5 rfl rfl) ?_
  refine mb_l_cons (ms_aload_n dX7_render_6 rfl rfl) ?_
  refine mb_l_cons (ms_ifnonnull dX7_render_7 rfl rfl) ?_
  refine mb_l_cons (ms_thr ⟨(fun _ h => nomatch h), 53, 203, 57, "no such scene", dX7_render_10, dX7_render_13, dX7_render_14, dX7_render_16, dX7_render_19, ⟨mw_206, rfl⟩, mw_32, mw_335, mt_X7_57.1, mt_X7_57.2⟩) ?_
  refine mb_l_cons (ms_aload_n dX7_render_20 rfl rfl) ?_
  refine mb_l_cons (ms_getf (ci := 7) (kf := 6) hX (C := RX7) (T := TX7) (N := 7) rfl (by decide) mu_X7 (Or.inl mw_57) dX7_render_21 rfl) ?_
  refine mb_l_cons (ms_istore_n dX7_render_24 rfl rfl) ?_
  refine mb_l_cons (ms_iconst dX7_render_25 rfl rfl) ?_
  refine mb_l_cons (ms_istore dX7_render_26 rfl) ?_
  refine mb_l_cons (ms_iload dX7_render_28 rfl) ?_
  refine mb_l_cons (ms_aload_n dX7_render_30 rfl rfl) ?_
  refine mb_l_cons (ms_getf (ci := 6) (kf := 2) hX (C := RX6) (T := TX6) (N := 4) rfl (by decide) mu_X6 (Or.inr ⟨_, mw_315⟩) dX7_render_31 rfl) ?_
  refine mb_l_cons (ms_icmp_ge dX7_render_34 rfl rfl) ?_
  refine mb_l_cons (ms_aload_n dX7_render_37 rfl rfl) ?_
  refine mb_l_cons (ms_iload dX7_render_38 rfl) ?_
  refine mb_l_cons (ms_callv (ci := 6) hX (y := 34) (y0 := yX6_frameAt) (bytes := cX6_frameAt) rfl (C := RX6) (T := TX6) (N := 4) rfl mq_X7_208_X6_frameAt mw_336 mw_337 mw_338 dX7_render_40 (fun _ _ _ h => nomatch h) rfl) ?_
  refine mb_l_cons (ms_astore dX7_render_43 rfl) ?_
  refine mb_l_cons (ms_aload dX7_render_45 rfl) ?_
  refine mb_l_cons (ms_ifnull dX7_render_47 rfl rfl) ?_
  refine mb_l_cons (ms_aload_n dX7_render_50 rfl rfl) ?_
  refine mb_l_cons (ms_aload_n dX7_render_51 rfl rfl) ?_
  refine mb_l_cons (ms_aload dX7_render_52 rfl) ?_
  refine mb_l_cons (ms_callv (ci := 7) hX (y := 74) (y0 := yX7_isStale) (bytes := cX7_isStale) rfl (C := RX7) (T := TX7) (N := 7) rfl mq_X7_212_X7_isStale mw_344 mw_346 mw_4 dX7_render_54 (fun _ _ _ h => nomatch h) rfl) ?_
  refine mb_l_cons (ms_if_eq dX7_render_57 rfl rfl) ?_
  refine mb_l_cons (ms_aload_n dX7_render_60 rfl rfl) ?_
  refine mb_l_cons (ms_aload dX7_render_61 rfl) ?_
  refine mb_l_cons (ms_callv (ci := 7) hX (y := 73) (y0 := yX7_countRendering) (bytes := cX7_countRendering) rfl (C := RX7) (T := TX7) (N := 7) rfl mq_X7_216_X7_countRendering mw_373 mw_375 mw_6 dX7_render_63 (fun _ _ _ h => nomatch h) rfl) ?_
  refine mb_l_cons (ms_aload_n dX7_render_66 rfl rfl) ?_
  refine mb_l_cons (ms_aload_n dX7_render_67 rfl rfl) ?_
  refine mb_l_cons (ms_aload dX7_render_68 rfl) ?_
  refine mb_l_cons (ms_callv (ci := 7) hX (y := 72) (y0 := yX7_keepVersions) (bytes := cX7_keepVersions) rfl (C := RX7) (T := TX7) (N := 7) rfl mq_X7_220_X7_keepVersions mw_377 mw_379 mw_7 dX7_render_70 (fun _ _ _ h => nomatch h) rfl) ?_
  refine mb_l_cons (ms_iinc dX7_render_73 rfl rfl) ?_
  refine mb_l_cons (ms_goto dX7_render_76 rfl) ?_
  refine mb_l_cons (ms_aload_n dX7_render_79 rfl rfl) ?_
  refine mb_l_cons (ms_getf (ci := 7) (kf := 6) hX (C := RX7) (T := TX7) (N := 7) rfl (by decide) mu_X7 (Or.inl mw_57) dX7_render_80 rfl) ?_
  refine mb_l_cons (ms_iload_n dX7_render_83 rfl rfl) ?_
  refine mb_l_cons (ms_isub dX7_render_84 rfl) ?_
  refine mb_l_cons (ms_iret dX7_render_85 rfl) ?_
  exact mb_l_nil
theorem mr_X7_renderOne (hX : mb_Fx l D cT s0 args0) : ∀ pc i, mb_look mc_X7_renderOne pc = some i → mb_Snd l D cT s0 mb_mt RX7 "renderOne" cX7_renderOne 6 (some .boolean) [] pc i := by
  unfold mc_X7_renderOne
  refine mb_l_cons (ms_aload_n dX7_renderOne_0 rfl rfl) ?_
  refine mb_l_cons (ms_iload_n dX7_renderOne_1 rfl rfl) ?_
  refine mb_l_cons (ms_callv (ci := 7) hX (y := 63) (y0 := yX7_sceneAt) (bytes := cX7_sceneAt) rfl (C := RX7) (T := TX7) (N := 7) rfl mq_X7_137_X7_sceneAt mw_331 mw_333 mw_3 dX7_renderOne_2 (fun _ _ _ h => nomatch h) rfl) ?_
  refine mb_l_cons (ms_astore_n dX7_renderOne_5 rfl rfl) ?_
  refine mb_l_cons (ms_aload_n dX7_renderOne_6 rfl rfl) ?_
  refine mb_l_cons (ms_ifnonnull dX7_renderOne_7 rfl rfl) ?_
  refine mb_l_cons (ms_null dX7_renderOne_10 rfl) ?_
  refine mb_l_cons (ms_goto dX7_renderOne_11 rfl) ?_
  refine mb_l_cons (ms_aload_n dX7_renderOne_14 rfl rfl) ?_
  refine mb_l_cons (ms_iload_n dX7_renderOne_15 rfl rfl) ?_
  refine mb_l_cons (ms_callv (ci := 6) hX (y := 34) (y0 := yX6_frameAt) (bytes := cX6_frameAt) rfl (C := RX6) (T := TX6) (N := 4) rfl mq_X7_208_X6_frameAt mw_336 mw_337 mw_338 dX7_renderOne_16 (fun _ _ _ h => nomatch h) rfl) ?_
  refine mb_l_cons (ms_astore dX7_renderOne_19 rfl) ?_
  refine mb_l_cons (ms_aload_n dX7_renderOne_21 rfl rfl) ?_
  refine mb_l_cons (ms_ifnull dX7_renderOne_22 rfl rfl) ?_
  refine mb_l_cons (ms_aload dX7_renderOne_25 rfl) ?_
  refine mb_l_cons (ms_ifnonnull dX7_renderOne_27 rfl rfl) ?_
  refine mb_l_cons (ms_thr ⟨(fun _ h => nomatch h), 53, 158, 57, "no such scene or frame", dX7_renderOne_30, dX7_renderOne_33, dX7_renderOne_34, dX7_renderOne_36, dX7_renderOne_39, ⟨mw_206, rfl⟩, mw_32, mw_412, mt_X7_57.1, mt_X7_57.2⟩) ?_
  refine mb_l_cons (ms_aload_n dX7_renderOne_40 rfl rfl) ?_
  refine mb_l_cons (ms_aload_n dX7_renderOne_41 rfl rfl) ?_
  refine mb_l_cons (ms_aload dX7_renderOne_42 rfl) ?_
  refine mb_l_cons (ms_callv (ci := 7) hX (y := 74) (y0 := yX7_isStale) (bytes := cX7_isStale) rfl (C := RX7) (T := TX7) (N := 7) rfl mq_X7_212_X7_isStale mw_344 mw_346 mw_4 dX7_renderOne_44 (fun _ _ _ h => nomatch h) rfl) ?_
  refine mb_l_cons (ms_istore dX7_renderOne_47 rfl) ?_
  refine mb_l_cons (ms_aload_n dX7_renderOne_49 rfl rfl) ?_
  refine mb_l_cons (ms_aload dX7_renderOne_50 rfl) ?_
  refine mb_l_cons (ms_callv (ci := 7) hX (y := 73) (y0 := yX7_countRendering) (bytes := cX7_countRendering) rfl (C := RX7) (T := TX7) (N := 7) rfl mq_X7_216_X7_countRendering mw_373 mw_375 mw_6 dX7_renderOne_52 (fun _ _ _ h => nomatch h) rfl) ?_
  refine mb_l_cons (ms_aload_n dX7_renderOne_55 rfl rfl) ?_
  refine mb_l_cons (ms_aload_n dX7_renderOne_56 rfl rfl) ?_
  refine mb_l_cons (ms_aload dX7_renderOne_57 rfl) ?_
  refine mb_l_cons (ms_callv (ci := 7) hX (y := 72) (y0 := yX7_keepVersions) (bytes := cX7_keepVersions) rfl (C := RX7) (T := TX7) (N := 7) rfl mq_X7_220_X7_keepVersions mw_377 mw_379 mw_7 dX7_renderOne_59 (fun _ _ _ h => nomatch h) rfl) ?_
  refine mb_l_cons (ms_iload dX7_renderOne_62 rfl) ?_
  refine mb_l_cons (ms_zret dX7_renderOne_64 rfl) ?_
  exact mb_l_nil
theorem mr_X7_needs (hX : mb_Fx l D cT s0 args0) : ∀ pc i, mb_look mc_X7_needs pc = some i → mb_Snd l D cT s0 mb_mt RX7 "needs" cX7_needs 3 (some .int) [] pc i := by
  unfold mc_X7_needs
  refine mb_l_cons (ms_aload_n dX7_needs_0 rfl rfl) ?_
  refine mb_l_cons (ms_iload_n dX7_needs_1 rfl rfl) ?_
  refine mb_l_cons (ms_callv (ci := 7) hX (y := 63) (y0 := yX7_sceneAt) (bytes := cX7_sceneAt) rfl (C := RX7) (T := TX7) (N := 7) rfl mq_X7_137_X7_sceneAt mw_331 mw_333 mw_3 dX7_needs_2 (fun _ _ _ h => nomatch h) rfl) ?_
  refine mb_l_cons (ms_astore_n dX7_needs_5 rfl rfl) ?_
  refine mb_l_cons (ms_aload_n dX7_needs_6 rfl rfl) ?_
  refine mb_l_cons (ms_ifnonnull dX7_needs_7 rfl rfl) ?_
  refine mb_l_cons (ms_thr ⟨(fun _ h => nomatch h), 53, 203, 57, "no such scene", dX7_needs_10, dX7_needs_13, dX7_needs_14, dX7_needs_16, dX7_needs_19, ⟨mw_206, rfl⟩, mw_32, mw_335, mt_X7_57.1, mt_X7_57.2⟩) ?_
  refine mb_l_cons (ms_aload_n dX7_needs_20 rfl rfl) ?_
  refine mb_l_cons (ms_aload_n dX7_needs_21 rfl rfl) ?_
  refine mb_l_cons (ms_callv (ci := 7) hX (y := 75) (y0 := yX7_staleFrames) (bytes := cX7_staleFrames) rfl (C := RX7) (T := TX7) (N := 7) rfl mq_X7_224_X7_staleFrames mw_389 mw_391 mw_8 dX7_needs_22 (fun _ _ _ h => nomatch h) rfl) ?_
  refine mb_l_cons (ms_iret dX7_needs_25 rfl) ?_
  exact mb_l_nil
theorem mr_X7_mixes (hX : mb_Fx l D cT s0 args0) : ∀ pc i, mb_look mc_X7_mixes pc = some i → mb_Snd l D cT s0 mb_mt RX7 "mixes" cX7_mixes 5 (some .int) [] pc i := by
  unfold mc_X7_mixes
  refine mb_l_cons (ms_aload_n dX7_mixes_0 rfl rfl) ?_
  refine mb_l_cons (ms_iload_n dX7_mixes_1 rfl rfl) ?_
  refine mb_l_cons (ms_callv (ci := 7) hX (y := 63) (y0 := yX7_sceneAt) (bytes := cX7_sceneAt) rfl (C := RX7) (T := TX7) (N := 7) rfl mq_X7_137_X7_sceneAt mw_331 mw_333 mw_3 dX7_mixes_2 (fun _ _ _ h => nomatch h) rfl) ?_
  refine mb_l_cons (ms_astore_n dX7_mixes_5 rfl rfl) ?_
  refine mb_l_cons (ms_aload_n dX7_mixes_6 rfl rfl) ?_
  refine mb_l_cons (ms_ifnonnull dX7_mixes_7 rfl rfl) ?_
  refine mb_l_cons (ms_thr ⟨(fun _ h => nomatch h), 53, 203, 57, "no such scene", dX7_mixes_10, dX7_mixes_13, dX7_mixes_14, dX7_mixes_16, dX7_mixes_19, ⟨mw_206, rfl⟩, mw_32, mw_335, mt_X7_57.1, mt_X7_57.2⟩) ?_
  refine mb_l_cons (ms_iconst dX7_mixes_20 rfl rfl) ?_
  refine mb_l_cons (ms_istore_n dX7_mixes_21 rfl rfl) ?_
  refine mb_l_cons (ms_iconst dX7_mixes_22 rfl rfl) ?_
  refine mb_l_cons (ms_istore dX7_mixes_23 rfl) ?_
  refine mb_l_cons (ms_iload dX7_mixes_25 rfl) ?_
  refine mb_l_cons (ms_aload_n dX7_mixes_27 rfl rfl) ?_
  refine mb_l_cons (ms_getf (ci := 7) (kf := 3) hX (C := RX7) (T := TX7) (N := 7) rfl (by decide) mu_X7 (Or.inl mw_54) dX7_mixes_28 rfl) ?_
  refine mb_l_cons (ms_icmp_ge dX7_mixes_31 rfl rfl) ?_
  refine mb_l_cons (ms_aload_n dX7_mixes_34 rfl rfl) ?_
  refine mb_l_cons (ms_iload dX7_mixes_35 rfl) ?_
  refine mb_l_cons (ms_callv (ci := 6) hX (y := 38) (y0 := yX6_follows) (bytes := cX6_follows) rfl (C := RX6) (T := TX6) (N := 4) rfl mq_X7_228_X6_follows mw_397 mw_398 mw_399 dX7_mixes_37 (fun _ _ _ h => nomatch h) rfl) ?_
  refine mb_l_cons (ms_if_eq dX7_mixes_40 rfl rfl) ?_
  refine mb_l_cons (ms_aload_n dX7_mixes_43 rfl rfl) ?_
  refine mb_l_cons (ms_iload dX7_mixes_44 rfl) ?_
  refine mb_l_cons (ms_callv (ci := 6) hX (y := 39) (y0 := yX6_keepsUnlikeVersions) (bytes := cX6_keepsUnlikeVersions) rfl (C := RX6) (T := TX6) (N := 4) rfl mq_X7_231_X6_keepsUnlikeVersions mw_402 mw_403 mw_404 dX7_mixes_46 (fun _ _ _ h => nomatch h) rfl) ?_
  refine mb_l_cons (ms_if_eq dX7_mixes_49 rfl rfl) ?_
  refine mb_l_cons (ms_iinc dX7_mixes_52 rfl rfl) ?_
  refine mb_l_cons (ms_iinc dX7_mixes_55 rfl rfl) ?_
  refine mb_l_cons (ms_goto dX7_mixes_58 rfl) ?_
  refine mb_l_cons (ms_iload_n dX7_mixes_61 rfl rfl) ?_
  refine mb_l_cons (ms_iret dX7_mixes_62 rfl) ?_
  exact mb_l_nil
theorem mr_X7_ofFrame (hX : mb_Fx l D cT s0 args0) : ∀ pc i, mb_look mc_X7_ofFrame pc = some i → mb_Snd l D cT s0 mb_mt RX7 "ofFrame" cX7_ofFrame 6 (some .int) [] pc i := by
  unfold mc_X7_ofFrame
  refine mb_l_cons (ms_aload_n dX7_ofFrame_0 rfl rfl) ?_
  refine mb_l_cons (ms_iload_n dX7_ofFrame_1 rfl rfl) ?_
  refine mb_l_cons (ms_callv (ci := 7) hX (y := 63) (y0 := yX7_sceneAt) (bytes := cX7_sceneAt) rfl (C := RX7) (T := TX7) (N := 7) rfl mq_X7_137_X7_sceneAt mw_331 mw_333 mw_3 dX7_ofFrame_2 (fun _ _ _ h => nomatch h) rfl) ?_
  refine mb_l_cons (ms_astore dX7_ofFrame_5 rfl) ?_
  refine mb_l_cons (ms_aload dX7_ofFrame_7 rfl) ?_
  refine mb_l_cons (ms_ifnonnull dX7_ofFrame_9 rfl rfl) ?_
  refine mb_l_cons (ms_null dX7_ofFrame_12 rfl) ?_
  refine mb_l_cons (ms_goto dX7_ofFrame_13 rfl) ?_
  refine mb_l_cons (ms_aload dX7_ofFrame_16 rfl) ?_
  refine mb_l_cons (ms_iload_n dX7_ofFrame_18 rfl rfl) ?_
  refine mb_l_cons (ms_callv (ci := 6) hX (y := 34) (y0 := yX6_frameAt) (bytes := cX6_frameAt) rfl (C := RX6) (T := TX6) (N := 4) rfl mq_X7_208_X6_frameAt mw_336 mw_337 mw_338 dX7_ofFrame_19 (fun _ _ _ h => nomatch h) rfl) ?_
  refine mb_l_cons (ms_astore dX7_ofFrame_22 rfl) ?_
  refine mb_l_cons (ms_aload dX7_ofFrame_24 rfl) ?_
  refine mb_l_cons (ms_ifnull dX7_ofFrame_26 rfl rfl) ?_
  refine mb_l_cons (ms_aload dX7_ofFrame_29 rfl) ?_
  refine mb_l_cons (ms_ifnonnull dX7_ofFrame_31 rfl rfl) ?_
  refine mb_l_cons (ms_thr ⟨(fun _ h => nomatch h), 53, 158, 57, "no such scene or frame", dX7_ofFrame_34, dX7_ofFrame_37, dX7_ofFrame_38, dX7_ofFrame_40, dX7_ofFrame_43, ⟨mw_206, rfl⟩, mw_32, mw_412, mt_X7_57.1, mt_X7_57.2⟩) ?_
  refine mb_l_cons (ms_iload_n dX7_ofFrame_44 rfl rfl) ?_
  refine mb_l_cons (ms_tsw dX7_ofFrame_45 rfl rfl rfl) ?_
  refine mb_l_cons (ms_aload dX7_ofFrame_84 rfl) ?_
  refine mb_l_cons (ms_getf (ci := 3) (kf := 0) hX (C := RX3) (T := TX3) (N := 3) rfl (by decide) mu_X3 (Or.inr ⟨_, mw_302⟩) dX7_ofFrame_86 rfl) ?_
  refine mb_l_cons (ms_iret dX7_ofFrame_89 rfl) ?_
  refine mb_l_cons (ms_aload dX7_ofFrame_90 rfl) ?_
  refine mb_l_cons (ms_getf (ci := 3) (kf := 2) hX (C := RX3) (T := TX3) (N := 3) rfl (by decide) mu_X3 (Or.inr ⟨_, mw_304⟩) dX7_ofFrame_92 rfl) ?_
  refine mb_l_cons (ms_if_le dX7_ofFrame_95 rfl rfl) ?_
  refine mb_l_cons (ms_iconst dX7_ofFrame_98 rfl rfl) ?_
  refine mb_l_cons (ms_goto dX7_ofFrame_99 rfl) ?_
  refine mb_l_cons (ms_iconst dX7_ofFrame_102 rfl rfl) ?_
  refine mb_l_cons (ms_iret dX7_ofFrame_103 rfl) ?_
  refine mb_l_cons (ms_aload_n dX7_ofFrame_104 rfl rfl) ?_
  refine mb_l_cons (ms_aload dX7_ofFrame_105 rfl) ?_
  refine mb_l_cons (ms_aload dX7_ofFrame_107 rfl) ?_
  refine mb_l_cons (ms_callv (ci := 7) hX (y := 74) (y0 := yX7_isStale) (bytes := cX7_isStale) rfl (C := RX7) (T := TX7) (N := 7) rfl mq_X7_212_X7_isStale mw_344 mw_346 mw_4 dX7_ofFrame_109 (fun _ _ _ h => nomatch h) rfl) ?_
  refine mb_l_cons (ms_if_eq dX7_ofFrame_112 rfl rfl) ?_
  refine mb_l_cons (ms_iconst dX7_ofFrame_115 rfl rfl) ?_
  refine mb_l_cons (ms_goto dX7_ofFrame_116 rfl) ?_
  refine mb_l_cons (ms_iconst dX7_ofFrame_119 rfl rfl) ?_
  refine mb_l_cons (ms_iret dX7_ofFrame_120 rfl) ?_
  refine mb_l_cons (ms_aload_n dX7_ofFrame_121 rfl rfl) ?_
  refine mb_l_cons (ms_aload dX7_ofFrame_122 rfl) ?_
  refine mb_l_cons (ms_aload dX7_ofFrame_124 rfl) ?_
  refine mb_l_cons (ms_callv (ci := 7) hX (y := 71) (y0 := yX7_bonesSeen) (bytes := cX7_bonesSeen) rfl (C := RX7) (T := TX7) (N := 7) rfl mq_X7_242_X7_bonesSeen mw_413 mw_415 mw_9 dX7_ofFrame_126 (fun _ _ _ h => nomatch h) rfl) ?_
  refine mb_l_cons (ms_iret dX7_ofFrame_129 rfl) ?_
  refine mb_l_cons (ms_aload_n dX7_ofFrame_130 rfl rfl) ?_
  refine mb_l_cons (ms_iload_n dX7_ofFrame_131 rfl rfl) ?_
  refine mb_l_cons (ms_iload_n dX7_ofFrame_132 rfl rfl) ?_
  refine mb_l_cons (ms_callv (ci := 7) hX (y := 78) (y0 := yX7_openNotesOfFrame) (bytes := cX7_openNotesOfFrame) rfl (C := RX7) (T := TX7) (N := 7) rfl mq_X7_246_X7_openNotesOfFrame mw_421 mw_423 mw_11 dX7_ofFrame_133 (fun _ _ _ h => nomatch h) rfl) ?_
  refine mb_l_cons (ms_iret dX7_ofFrame_136 rfl) ?_
  refine mb_l_cons (ms_aload dX7_ofFrame_137 rfl) ?_
  refine mb_l_cons (ms_getf (ci := 3) (kf := 2) hX (C := RX3) (T := TX3) (N := 3) rfl (by decide) mu_X3 (Or.inr ⟨_, mw_304⟩) dX7_ofFrame_139 rfl) ?_
  refine mb_l_cons (ms_iret dX7_ofFrame_142 rfl) ?_
  refine mb_l_cons (ms_thr ⟨(fun _ h => nomatch h), 53, 125, 57, "what is out of range", dX7_ofFrame_143, dX7_ofFrame_146, dX7_ofFrame_147, dX7_ofFrame_149, dX7_ofFrame_152, ⟨mw_206, rfl⟩, mw_32, mw_429, mt_X7_57.1, mt_X7_57.2⟩) ?_
  exact mb_l_nil
theorem mr_X7_kept (hX : mb_Fx l D cT s0 args0) : ∀ pc i, mb_look mc_X7_kept pc = some i → mb_Snd l D cT s0 mb_mt RX7 "kept" cX7_kept 6 (some .int) [] pc i := by
  unfold mc_X7_kept
  refine mb_l_cons (ms_aload_n dX7_kept_0 rfl rfl) ?_
  refine mb_l_cons (ms_iload_n dX7_kept_1 rfl rfl) ?_
  refine mb_l_cons (ms_callv (ci := 7) hX (y := 63) (y0 := yX7_sceneAt) (bytes := cX7_sceneAt) rfl (C := RX7) (T := TX7) (N := 7) rfl mq_X7_137_X7_sceneAt mw_331 mw_333 mw_3 dX7_kept_2 (fun _ _ _ h => nomatch h) rfl) ?_
  refine mb_l_cons (ms_astore dX7_kept_5 rfl) ?_
  refine mb_l_cons (ms_aload dX7_kept_7 rfl) ?_
  refine mb_l_cons (ms_ifnonnull dX7_kept_9 rfl rfl) ?_
  refine mb_l_cons (ms_null dX7_kept_12 rfl) ?_
  refine mb_l_cons (ms_goto dX7_kept_13 rfl) ?_
  refine mb_l_cons (ms_aload dX7_kept_16 rfl) ?_
  refine mb_l_cons (ms_iload_n dX7_kept_18 rfl rfl) ?_
  refine mb_l_cons (ms_callv (ci := 6) hX (y := 34) (y0 := yX6_frameAt) (bytes := cX6_frameAt) rfl (C := RX6) (T := TX6) (N := 4) rfl mq_X7_208_X6_frameAt mw_336 mw_337 mw_338 dX7_kept_19 (fun _ _ _ h => nomatch h) rfl) ?_
  refine mb_l_cons (ms_astore dX7_kept_22 rfl) ?_
  refine mb_l_cons (ms_aload dX7_kept_24 rfl) ?_
  refine mb_l_cons (ms_ifnull dX7_kept_26 rfl rfl) ?_
  refine mb_l_cons (ms_aload_n dX7_kept_29 rfl rfl) ?_
  refine mb_l_cons (ms_iload_n dX7_kept_30 rfl rfl) ?_
  refine mb_l_cons (ms_callv (ci := 7) hX (y := 62) (y0 := yX7_assetAt) (bytes := cX7_assetAt) rfl (C := RX7) (T := TX7) (N := 7) rfl mq_X7_39_X7_assetAt mw_194 mw_196 mw_2 dX7_kept_31 (fun _ _ _ h => nomatch h) rfl) ?_
  refine mb_l_cons (ms_ifnonnull dX7_kept_34 rfl rfl) ?_
  refine mb_l_cons (ms_thr ⟨(fun _ h => nomatch h), 53, 249, 57, "no such scene, frame or asset", dX7_kept_37, dX7_kept_40, dX7_kept_41, dX7_kept_43, dX7_kept_46, ⟨mw_206, rfl⟩, mw_32, mw_661, mt_X7_57.1, mt_X7_57.2⟩) ?_
  refine mb_l_cons (ms_aload dX7_kept_47 rfl) ?_
  refine mb_l_cons (ms_iload_n dX7_kept_49 rfl rfl) ?_
  refine mb_l_cons (ms_callv (ci := 3) hX (y := 17) (y0 := yX3_versionOf) (bytes := cX3_versionOf) rfl (C := RX3) (T := TX3) (N := 3) rfl mq_X7_251_X3_versionOf mw_360 mw_361 mw_362 dX7_kept_50 (fun _ _ _ h => nomatch h) rfl) ?_
  refine mb_l_cons (ms_iret dX7_kept_53 rfl) ?_
  exact mb_l_nil
theorem mr_X7_count (hX : mb_Fx l D cT s0 args0) : ∀ pc i, mb_look mc_X7_count pc = some i → mb_Snd l D cT s0 mb_mt RX7 "count" cX7_count 2 (some .int) [] pc i := by
  unfold mc_X7_count
  refine mb_l_cons (ms_iload_n dX7_count_0 rfl rfl) ?_
  refine mb_l_cons (ms_tsw dX7_count_1 rfl rfl rfl) ?_
  refine mb_l_cons (ms_aload_n dX7_count_44 rfl rfl) ?_
  refine mb_l_cons (ms_getf (ci := 7) (kf := 3) hX (C := RX7) (T := TX7) (N := 7) rfl (by decide) mu_X7 (Or.inl mw_54) dX7_count_45 rfl) ?_
  refine mb_l_cons (ms_iret dX7_count_48 rfl) ?_
  refine mb_l_cons (ms_aload_n dX7_count_49 rfl rfl) ?_
  refine mb_l_cons (ms_callv (ci := 7) hX (y := 80) (y0 := yX7_allVersions) (bytes := cX7_allVersions) rfl (C := RX7) (T := TX7) (N := 7) rfl mq_X7_254_X7_allVersions mw_434 mw_436 mw_13 dX7_count_50 (fun _ _ _ h => nomatch h) rfl) ?_
  refine mb_l_cons (ms_iret dX7_count_53 rfl) ?_
  refine mb_l_cons (ms_aload_n dX7_count_54 rfl rfl) ?_
  refine mb_l_cons (ms_getf (ci := 7) (kf := 4) hX (C := RX7) (T := TX7) (N := 7) rfl (by decide) mu_X7 (Or.inl mw_55) dX7_count_55 rfl) ?_
  refine mb_l_cons (ms_iret dX7_count_58 rfl) ?_
  refine mb_l_cons (ms_aload_n dX7_count_59 rfl rfl) ?_
  refine mb_l_cons (ms_callv (ci := 7) hX (y := 81) (y0 := yX7_allFrames) (bytes := cX7_allFrames) rfl (C := RX7) (T := TX7) (N := 7) rfl mq_X7_257_X7_allFrames mw_438 mw_440 mw_14 dX7_count_60 (fun _ _ _ h => nomatch h) rfl) ?_
  refine mb_l_cons (ms_iret dX7_count_63 rfl) ?_
  refine mb_l_cons (ms_aload_n dX7_count_64 rfl rfl) ?_
  refine mb_l_cons (ms_callv (ci := 7) hX (y := 82) (y0 := yX7_allStaleFrames) (bytes := cX7_allStaleFrames) rfl (C := RX7) (T := TX7) (N := 7) rfl mq_X7_260_X7_allStaleFrames mw_442 mw_444 mw_15 dX7_count_65 (fun _ _ _ h => nomatch h) rfl) ?_
  refine mb_l_cons (ms_iret dX7_count_68 rfl) ?_
  refine mb_l_cons (ms_aload_n dX7_count_69 rfl rfl) ?_
  refine mb_l_cons (ms_getf (ci := 7) (kf := 6) hX (C := RX7) (T := TX7) (N := 7) rfl (by decide) mu_X7 (Or.inl mw_57) dX7_count_70 rfl) ?_
  refine mb_l_cons (ms_iret dX7_count_73 rfl) ?_
  refine mb_l_cons (ms_aload_n dX7_count_74 rfl rfl) ?_
  refine mb_l_cons (ms_callv (ci := 7) hX (y := 83) (y0 := yX7_allOpenNotes) (bytes := cX7_allOpenNotes) rfl (C := RX7) (T := TX7) (N := 7) rfl mq_X7_263_X7_allOpenNotes mw_446 mw_448 mw_16 dX7_count_75 (fun _ _ _ h => nomatch h) rfl) ?_
  refine mb_l_cons (ms_iret dX7_count_78 rfl) ?_
  refine mb_l_cons (ms_thr ⟨(fun _ h => nomatch h), 76, 125, 80, "what is out of range", dX7_count_79, dX7_count_82, dX7_count_83, dX7_count_85, dX7_count_88, ⟨mw_225, rfl⟩, mw_29, mw_429, mt_X7_80.1, mt_X7_80.2⟩) ?_
  exact mb_l_nil
theorem mr_X7_assetAt (hX : mb_Fx l D cT s0 args0) : ∀ pc i, mb_look mc_X7_assetAt pc = some i → mb_Snd l D cT s0 mb_mt RX7 "assetAt" cX7_assetAt 2 (some (.object "PegbarBarn$Asset")) [] pc i := by
  unfold mc_X7_assetAt
  refine mb_l_cons (ms_iload_n dX7_assetAt_0 rfl rfl) ?_
  refine mb_l_cons (ms_if_lt dX7_assetAt_1 rfl rfl) ?_
  refine mb_l_cons (ms_iload_n dX7_assetAt_4 rfl rfl) ?_
  refine mb_l_cons (ms_aload_n dX7_assetAt_5 rfl rfl) ?_
  refine mb_l_cons (ms_getf (ci := 7) (kf := 3) hX (C := RX7) (T := TX7) (N := 7) rfl (by decide) mu_X7 (Or.inl mw_54) dX7_assetAt_6 rfl) ?_
  refine mb_l_cons (ms_icmp_lt dX7_assetAt_9 rfl rfl) ?_
  refine mb_l_cons (ms_null dX7_assetAt_12 rfl) ?_
  refine mb_l_cons (ms_goto dX7_assetAt_13 rfl) ?_
  refine mb_l_cons (ms_aload_n dX7_assetAt_16 rfl rfl) ?_
  refine mb_l_cons (ms_getf (ci := 7) (kf := 0) hX (C := RX7) (T := TX7) (N := 7) rfl (by decide) mu_X7 (Or.inl mw_51) dX7_assetAt_17 rfl) ?_
  refine mb_l_cons (ms_iload_n dX7_assetAt_20 rfl rfl) ?_
  refine mb_l_cons (ms_aald hX dX7_assetAt_21 rfl) ?_
  refine mb_l_cons (ms_aret dX7_assetAt_22 rfl (Or.inl ⟨_, rfl⟩)) ?_
  exact mb_l_nil
theorem mr_X7_sceneAt (hX : mb_Fx l D cT s0 args0) : ∀ pc i, mb_look mc_X7_sceneAt pc = some i → mb_Snd l D cT s0 mb_mt RX7 "sceneAt" cX7_sceneAt 2 (some (.object "PegbarBarn$Scene")) [] pc i := by
  unfold mc_X7_sceneAt
  refine mb_l_cons (ms_iload_n dX7_sceneAt_0 rfl rfl) ?_
  refine mb_l_cons (ms_if_lt dX7_sceneAt_1 rfl rfl) ?_
  refine mb_l_cons (ms_iload_n dX7_sceneAt_4 rfl rfl) ?_
  refine mb_l_cons (ms_aload_n dX7_sceneAt_5 rfl rfl) ?_
  refine mb_l_cons (ms_getf (ci := 7) (kf := 4) hX (C := RX7) (T := TX7) (N := 7) rfl (by decide) mu_X7 (Or.inl mw_55) dX7_sceneAt_6 rfl) ?_
  refine mb_l_cons (ms_icmp_lt dX7_sceneAt_9 rfl rfl) ?_
  refine mb_l_cons (ms_null dX7_sceneAt_12 rfl) ?_
  refine mb_l_cons (ms_goto dX7_sceneAt_13 rfl) ?_
  refine mb_l_cons (ms_aload_n dX7_sceneAt_16 rfl rfl) ?_
  refine mb_l_cons (ms_getf (ci := 7) (kf := 1) hX (C := RX7) (T := TX7) (N := 7) rfl (by decide) mu_X7 (Or.inl mw_52) dX7_sceneAt_17 rfl) ?_
  refine mb_l_cons (ms_iload_n dX7_sceneAt_20 rfl rfl) ?_
  refine mb_l_cons (ms_aald hX dX7_sceneAt_21 rfl) ?_
  refine mb_l_cons (ms_aret dX7_sceneAt_22 rfl (Or.inl ⟨_, rfl⟩)) ?_
  exact mb_l_nil
theorem mr_X7_noteAt (hX : mb_Fx l D cT s0 args0) : ∀ pc i, mb_look mc_X7_noteAt pc = some i → mb_Snd l D cT s0 mb_mt RX7 "noteAt" cX7_noteAt 2 (some (.object "PegbarBarn$Note")) [] pc i := by
  unfold mc_X7_noteAt
  refine mb_l_cons (ms_iload_n dX7_noteAt_0 rfl rfl) ?_
  refine mb_l_cons (ms_if_lt dX7_noteAt_1 rfl rfl) ?_
  refine mb_l_cons (ms_iload_n dX7_noteAt_4 rfl rfl) ?_
  refine mb_l_cons (ms_aload_n dX7_noteAt_5 rfl rfl) ?_
  refine mb_l_cons (ms_getf (ci := 7) (kf := 5) hX (C := RX7) (T := TX7) (N := 7) rfl (by decide) mu_X7 (Or.inl mw_56) dX7_noteAt_6 rfl) ?_
  refine mb_l_cons (ms_icmp_lt dX7_noteAt_9 rfl rfl) ?_
  refine mb_l_cons (ms_null dX7_noteAt_12 rfl) ?_
  refine mb_l_cons (ms_goto dX7_noteAt_13 rfl) ?_
  refine mb_l_cons (ms_aload_n dX7_noteAt_16 rfl rfl) ?_
  refine mb_l_cons (ms_getf (ci := 7) (kf := 2) hX (C := RX7) (T := TX7) (N := 7) rfl (by decide) mu_X7 (Or.inl mw_53) dX7_noteAt_17 rfl) ?_
  refine mb_l_cons (ms_iload_n dX7_noteAt_20 rfl rfl) ?_
  refine mb_l_cons (ms_aald hX dX7_noteAt_21 rfl) ?_
  refine mb_l_cons (ms_aret dX7_noteAt_22 rfl (Or.inl ⟨_, rfl⟩)) ?_
  exact mb_l_nil
theorem mr_X7_draftCurve (hX : mb_Fx l D cT s0 args0) : ∀ pc i, mb_look mc_X7_draftCurve pc = some i → mb_Snd l D cT s0 mb_mt RX7 "draftCurve" cX7_draftCurve 4 (some (.object "PegbarBarn$Curve")) [] pc i := by
  unfold mc_X7_draftCurve
  refine mb_l_cons (ms_aload_n dX7_draftCurve_0 rfl rfl) ?_
  refine mb_l_cons (ms_iload_n dX7_draftCurve_1 rfl rfl) ?_
  refine mb_l_cons (ms_callv (ci := 7) hX (y := 62) (y0 := yX7_assetAt) (bytes := cX7_assetAt) rfl (C := RX7) (T := TX7) (N := 7) rfl mq_X7_39_X7_assetAt mw_194 mw_196 mw_2 dX7_draftCurve_2 (fun _ _ _ h => nomatch h) rfl) ?_
  refine mb_l_cons (ms_astore_n dX7_draftCurve_5 rfl rfl) ?_
  refine mb_l_cons (ms_aload_n dX7_draftCurve_6 rfl rfl) ?_
  refine mb_l_cons (ms_ifnonnull dX7_draftCurve_7 rfl rfl) ?_
  refine mb_l_cons (ms_null dX7_draftCurve_10 rfl) ?_
  refine mb_l_cons (ms_goto dX7_draftCurve_11 rfl) ?_
  refine mb_l_cons (ms_aload_n dX7_draftCurve_14 rfl rfl) ?_
  refine mb_l_cons (ms_getf (ci := 0) (kf := 0) hX (C := RX0) (T := TX0) (N := 3) rfl (by decide) mu_X0 (Or.inr ⟨_, mw_175⟩) dX7_draftCurve_15 rfl) ?_
  refine mb_l_cons (ms_iload_n dX7_draftCurve_18 rfl rfl) ?_
  refine mb_l_cons (ms_callv (ci := 5) hX (y := 23) (y0 := yX5_curveOf) (bytes := cX5_curveOf) rfl (C := RX5) (T := TX5) (N := 4) rfl mq_X7_266_X5_curveOf mw_500 mw_258 mw_259 dX7_draftCurve_19 (fun _ _ _ h => nomatch h) rfl) ?_
  refine mb_l_cons (ms_aret dX7_draftCurve_22 rfl (Or.inl ⟨_, rfl⟩)) ?_
  exact mb_l_nil
theorem mr_X7_rigOf (hX : mb_Fx l D cT s0 args0) : ∀ pc i, mb_look mc_X7_rigOf pc = some i → mb_Snd l D cT s0 mb_mt RX7 "rigOf" cX7_rigOf 4 (some (.object "PegbarBarn$Rig")) [] pc i := by
  unfold mc_X7_rigOf
  refine mb_l_cons (ms_aload_n dX7_rigOf_0 rfl rfl) ?_
  refine mb_l_cons (ms_iload_n dX7_rigOf_1 rfl rfl) ?_
  refine mb_l_cons (ms_callv (ci := 7) hX (y := 62) (y0 := yX7_assetAt) (bytes := cX7_assetAt) rfl (C := RX7) (T := TX7) (N := 7) rfl mq_X7_39_X7_assetAt mw_194 mw_196 mw_2 dX7_rigOf_2 (fun _ _ _ h => nomatch h) rfl) ?_
  refine mb_l_cons (ms_astore_n dX7_rigOf_5 rfl rfl) ?_
  refine mb_l_cons (ms_aload_n dX7_rigOf_6 rfl rfl) ?_
  refine mb_l_cons (ms_ifnonnull dX7_rigOf_7 rfl rfl) ?_
  refine mb_l_cons (ms_null dX7_rigOf_10 rfl) ?_
  refine mb_l_cons (ms_aret dX7_rigOf_11 rfl (Or.inl ⟨_, rfl⟩)) ?_
  refine mb_l_cons (ms_iload_n dX7_rigOf_12 rfl rfl) ?_
  refine mb_l_cons (ms_iconst dX7_rigOf_13 rfl rfl) ?_
  refine mb_l_cons (ms_icmp_ne dX7_rigOf_14 rfl rfl) ?_
  refine mb_l_cons (ms_aload_n dX7_rigOf_17 rfl rfl) ?_
  refine mb_l_cons (ms_getf (ci := 0) (kf := 0) hX (C := RX0) (T := TX0) (N := 3) rfl (by decide) mu_X0 (Or.inr ⟨_, mw_175⟩) dX7_rigOf_18 rfl) ?_
  refine mb_l_cons (ms_goto dX7_rigOf_21 rfl) ?_
  refine mb_l_cons (ms_aload_n dX7_rigOf_24 rfl rfl) ?_
  refine mb_l_cons (ms_iload_n dX7_rigOf_25 rfl rfl) ?_
  refine mb_l_cons (ms_callv (ci := 0) hX (y := 2) (y0 := yX0_versionAt) (bytes := cX0_versionAt) rfl (C := RX0) (T := TX0) (N := 3) rfl mq_X7_270_X0_versionAt mw_198 mw_199 mw_200 dX7_rigOf_26 (fun _ _ _ h => nomatch h) rfl) ?_
  refine mb_l_cons (ms_aret dX7_rigOf_29 rfl (Or.inl ⟨_, rfl⟩)) ?_
  exact mb_l_nil
theorem mr_X7_isCurveFrame (hX : mb_Fx l D cT s0 args0) : ∀ pc i, mb_look mc_X7_isCurveFrame pc = some i → mb_Snd l D cT s0 mb_mt RX7 "isCurveFrame" cX7_isCurveFrame 1 (some .boolean) [] pc i := by
  unfold mc_X7_isCurveFrame
  refine mb_l_cons (ms_iload_n dX7_isCurveFrame_0 rfl rfl) ?_
  refine mb_l_cons (ms_if_lt dX7_isCurveFrame_1 rfl rfl) ?_
  refine mb_l_cons (ms_iload_n dX7_isCurveFrame_4 rfl rfl) ?_
  refine mb_l_cons (ms_bipush dX7_isCurveFrame_5 rfl rfl) ?_
  refine mb_l_cons (ms_icmp_ge dX7_isCurveFrame_7 rfl rfl) ?_
  refine mb_l_cons (ms_iconst dX7_isCurveFrame_10 rfl rfl) ?_
  refine mb_l_cons (ms_goto dX7_isCurveFrame_11 rfl) ?_
  refine mb_l_cons (ms_iconst dX7_isCurveFrame_14 rfl rfl) ?_
  refine mb_l_cons (ms_zret dX7_isCurveFrame_15 rfl) ?_
  exact mb_l_nil
theorem mr_X7_canBeShown (hX : mb_Fx l D cT s0 args0) : ∀ pc i, mb_look mc_X7_canBeShown pc = some i → mb_Snd l D cT s0 mb_mt RX7 "canBeShown" cX7_canBeShown 1 (some .boolean) [] pc i := by
  unfold mc_X7_canBeShown
  refine mb_l_cons (ms_iload_n dX7_canBeShown_0 rfl rfl) ?_
  refine mb_l_cons (ms_if_lt dX7_canBeShown_1 rfl rfl) ?_
  refine mb_l_cons (ms_iload_n dX7_canBeShown_4 rfl rfl) ?_
  refine mb_l_cons (ms_bipush dX7_canBeShown_5 rfl rfl) ?_
  refine mb_l_cons (ms_icmp_ge dX7_canBeShown_7 rfl rfl) ?_
  refine mb_l_cons (ms_iconst dX7_canBeShown_10 rfl rfl) ?_
  refine mb_l_cons (ms_goto dX7_canBeShown_11 rfl) ?_
  refine mb_l_cons (ms_iconst dX7_canBeShown_14 rfl rfl) ?_
  refine mb_l_cons (ms_zret dX7_canBeShown_15 rfl) ?_
  exact mb_l_nil
theorem mr_X7_seenVersion (hX : mb_Fx l D cT s0 args0) : ∀ pc i, mb_look mc_X7_seenVersion pc = some i → mb_Snd l D cT s0 mb_mt RX7 "seenVersion" cX7_seenVersion 6 (some .int) [] pc i := by
  unfold mc_X7_seenVersion
  refine mb_l_cons (ms_aload_n dX7_seenVersion_0 rfl rfl) ?_
  refine mb_l_cons (ms_iload_n dX7_seenVersion_1 rfl rfl) ?_
  refine mb_l_cons (ms_callv (ci := 7) hX (y := 62) (y0 := yX7_assetAt) (bytes := cX7_assetAt) rfl (C := RX7) (T := TX7) (N := 7) rfl mq_X7_39_X7_assetAt mw_194 mw_196 mw_2 dX7_seenVersion_2 (fun _ _ _ h => nomatch h) rfl) ?_
  refine mb_l_cons (ms_astore dX7_seenVersion_5 rfl) ?_
  refine mb_l_cons (ms_aload_n dX7_seenVersion_7 rfl rfl) ?_
  refine mb_l_cons (ms_iload_n dX7_seenVersion_8 rfl rfl) ?_
  refine mb_l_cons (ms_callv (ci := 6) hX (y := 35) (y0 := yX6_castingOf) (bytes := cX6_castingOf) rfl (C := RX6) (T := TX6) (N := 4) rfl mq_X7_274_X6_castingOf mw_352 mw_353 mw_354 dX7_seenVersion_9 (fun _ _ _ h => nomatch h) rfl) ?_
  refine mb_l_cons (ms_astore dX7_seenVersion_12 rfl) ?_
  refine mb_l_cons (ms_aload dX7_seenVersion_14 rfl) ?_
  refine mb_l_cons (ms_ifnull dX7_seenVersion_16 rfl rfl) ?_
  refine mb_l_cons (ms_aload dX7_seenVersion_19 rfl) ?_
  refine mb_l_cons (ms_ifnull dX7_seenVersion_21 rfl rfl) ?_
  refine mb_l_cons (ms_aload dX7_seenVersion_24 rfl) ?_
  refine mb_l_cons (ms_aload_n dX7_seenVersion_26 rfl rfl) ?_
  refine mb_l_cons (ms_getf (ci := 3) (kf := 0) hX (C := RX3) (T := TX3) (N := 3) rfl (by decide) mu_X3 (Or.inr ⟨_, mw_302⟩) dX7_seenVersion_27 rfl) ?_
  refine mb_l_cons (ms_callv (ci := 1) hX (y := 5) (y0 := yX1_covers) (bytes := cX1_covers) rfl (C := RX1) (T := TX1) (N := 3) rfl mq_X7_278_X1_covers mw_356 mw_357 mw_358 dX7_seenVersion_30 (fun _ _ _ h => nomatch h) rfl) ?_
  refine mb_l_cons (ms_if_ne dX7_seenVersion_33 rfl rfl) ?_
  refine mb_l_cons (ms_iconst dX7_seenVersion_36 rfl rfl) ?_
  refine mb_l_cons (ms_iret dX7_seenVersion_37 rfl) ?_
  refine mb_l_cons (ms_aload dX7_seenVersion_38 rfl) ?_
  refine mb_l_cons (ms_getf (ci := 1) (kf := 0) hX (C := RX1) (T := TX1) (N := 3) rfl (by decide) mu_X1 (Or.inr ⟨_, mw_572⟩) dX7_seenVersion_40 rfl) ?_
  refine mb_l_cons (ms_iconst dX7_seenVersion_43 rfl rfl) ?_
  refine mb_l_cons (ms_icmp_ne dX7_seenVersion_44 rfl rfl) ?_
  refine mb_l_cons (ms_aload dX7_seenVersion_47 rfl) ?_
  refine mb_l_cons (ms_getf (ci := 0) (kf := 2) hX (C := RX0) (T := TX0) (N := 3) rfl (by decide) mu_X0 (Or.inr ⟨_, mw_178⟩) dX7_seenVersion_49 rfl) ?_
  refine mb_l_cons (ms_iconst dX7_seenVersion_52 rfl rfl) ?_
  refine mb_l_cons (ms_isub dX7_seenVersion_53 rfl) ?_
  refine mb_l_cons (ms_goto dX7_seenVersion_54 rfl) ?_
  refine mb_l_cons (ms_aload dX7_seenVersion_57 rfl) ?_
  refine mb_l_cons (ms_getf (ci := 1) (kf := 0) hX (C := RX1) (T := TX1) (N := 3) rfl (by decide) mu_X1 (Or.inr ⟨_, mw_572⟩) dX7_seenVersion_59 rfl) ?_
  refine mb_l_cons (ms_iret dX7_seenVersion_62 rfl) ?_
  exact mb_l_nil
theorem mr_X7_seenRig (hX : mb_Fx l D cT s0 args0) : ∀ pc i, mb_look mc_X7_seenRig pc = some i → mb_Snd l D cT s0 mb_mt RX7 "seenRig" cX7_seenRig 5 (some (.object "PegbarBarn$Rig")) [] pc i := by
  unfold mc_X7_seenRig
  refine mb_l_cons (ms_aload_n dX7_seenRig_0 rfl rfl) ?_
  refine mb_l_cons (ms_iload_n dX7_seenRig_1 rfl rfl) ?_
  refine mb_l_cons (ms_callv (ci := 7) hX (y := 62) (y0 := yX7_assetAt) (bytes := cX7_assetAt) rfl (C := RX7) (T := TX7) (N := 7) rfl mq_X7_39_X7_assetAt mw_194 mw_196 mw_2 dX7_seenRig_2 (fun _ _ _ h => nomatch h) rfl) ?_
  refine mb_l_cons (ms_astore dX7_seenRig_5 rfl) ?_
  refine mb_l_cons (ms_aload dX7_seenRig_7 rfl) ?_
  refine mb_l_cons (ms_ifnonnull dX7_seenRig_9 rfl rfl) ?_
  refine mb_l_cons (ms_null dX7_seenRig_12 rfl) ?_
  refine mb_l_cons (ms_goto dX7_seenRig_13 rfl) ?_
  refine mb_l_cons (ms_aload dX7_seenRig_16 rfl) ?_
  refine mb_l_cons (ms_aload_n dX7_seenRig_18 rfl rfl) ?_
  refine mb_l_cons (ms_aload_n dX7_seenRig_19 rfl rfl) ?_
  refine mb_l_cons (ms_aload_n dX7_seenRig_20 rfl rfl) ?_
  refine mb_l_cons (ms_iload_n dX7_seenRig_21 rfl rfl) ?_
  refine mb_l_cons (ms_callv (ci := 7) hX (y := 69) (y0 := yX7_seenVersion) (bytes := cX7_seenVersion) rfl (C := RX7) (T := TX7) (N := 7) rfl mq_X7_286_X7_seenVersion mw_348 mw_350 mw_5 dX7_seenRig_22 (fun _ _ _ h => nomatch h) rfl) ?_
  refine mb_l_cons (ms_callv (ci := 0) hX (y := 2) (y0 := yX0_versionAt) (bytes := cX0_versionAt) rfl (C := RX0) (T := TX0) (N := 3) rfl mq_X7_270_X0_versionAt mw_198 mw_199 mw_200 dX7_seenRig_25 (fun _ _ _ h => nomatch h) rfl) ?_
  refine mb_l_cons (ms_aret dX7_seenRig_28 rfl (Or.inl ⟨_, rfl⟩)) ?_
  exact mb_l_nil
theorem mr_X7_bonesSeen (hX : mb_Fx l D cT s0 args0) : ∀ pc i, mb_look mc_X7_bonesSeen pc = some i → mb_Snd l D cT s0 mb_mt RX7 "bonesSeen" cX7_bonesSeen 6 (some .int) [] pc i := by
  unfold mc_X7_bonesSeen
  refine mb_l_cons (ms_iconst dX7_bonesSeen_0 rfl rfl) ?_
  refine mb_l_cons (ms_istore_n dX7_bonesSeen_1 rfl rfl) ?_
  refine mb_l_cons (ms_iconst dX7_bonesSeen_2 rfl rfl) ?_
  refine mb_l_cons (ms_istore dX7_bonesSeen_3 rfl) ?_
  refine mb_l_cons (ms_iload dX7_bonesSeen_5 rfl) ?_
  refine mb_l_cons (ms_aload_n dX7_bonesSeen_7 rfl rfl) ?_
  refine mb_l_cons (ms_getf (ci := 7) (kf := 3) hX (C := RX7) (T := TX7) (N := 7) rfl (by decide) mu_X7 (Or.inl mw_54) dX7_bonesSeen_8 rfl) ?_
  refine mb_l_cons (ms_icmp_ge dX7_bonesSeen_11 rfl rfl) ?_
  refine mb_l_cons (ms_aload_n dX7_bonesSeen_14 rfl rfl) ?_
  refine mb_l_cons (ms_aload_n dX7_bonesSeen_15 rfl rfl) ?_
  refine mb_l_cons (ms_aload_n dX7_bonesSeen_16 rfl rfl) ?_
  refine mb_l_cons (ms_iload dX7_bonesSeen_17 rfl) ?_
  refine mb_l_cons (ms_callv (ci := 7) hX (y := 70) (y0 := yX7_seenRig) (bytes := cX7_seenRig) rfl (C := RX7) (T := TX7) (N := 7) rfl mq_X7_290_X7_seenRig mw_417 mw_419 mw_10 dX7_bonesSeen_19 (fun _ _ _ h => nomatch h) rfl) ?_
  refine mb_l_cons (ms_astore dX7_bonesSeen_22 rfl) ?_
  refine mb_l_cons (ms_aload dX7_bonesSeen_24 rfl) ?_
  refine mb_l_cons (ms_ifnull dX7_bonesSeen_26 rfl rfl) ?_
  refine mb_l_cons (ms_iload_n dX7_bonesSeen_29 rfl rfl) ?_
  refine mb_l_cons (ms_aload dX7_bonesSeen_30 rfl) ?_
  refine mb_l_cons (ms_getf (ci := 5) (kf := 2) hX (C := RX5) (T := TX5) (N := 4) rfl (by decide) mu_X5 (Or.inr ⟨_, mw_161⟩) dX7_bonesSeen_32 rfl) ?_
  refine mb_l_cons (ms_iadd dX7_bonesSeen_35 rfl) ?_
  refine mb_l_cons (ms_istore_n dX7_bonesSeen_36 rfl rfl) ?_
  refine mb_l_cons (ms_iinc dX7_bonesSeen_37 rfl rfl) ?_
  refine mb_l_cons (ms_goto dX7_bonesSeen_40 rfl) ?_
  refine mb_l_cons (ms_iload_n dX7_bonesSeen_43 rfl rfl) ?_
  refine mb_l_cons (ms_iret dX7_bonesSeen_44 rfl) ?_
  exact mb_l_nil
theorem mr_X7_keepVersions (hX : mb_Fx l D cT s0 args0) : ∀ pc i, mb_look mc_X7_keepVersions pc = some i → mb_Snd l D cT s0 mb_mt RX7 "keepVersions" cX7_keepVersions 4 none [] pc i := by
  unfold mc_X7_keepVersions
  refine mb_l_cons (ms_iconst dX7_keepVersions_0 rfl rfl) ?_
  refine mb_l_cons (ms_istore_n dX7_keepVersions_1 rfl rfl) ?_
  refine mb_l_cons (ms_iload_n dX7_keepVersions_2 rfl rfl) ?_
  refine mb_l_cons (ms_aload_n dX7_keepVersions_3 rfl rfl) ?_
  refine mb_l_cons (ms_getf (ci := 7) (kf := 3) hX (C := RX7) (T := TX7) (N := 7) rfl (by decide) mu_X7 (Or.inl mw_54) dX7_keepVersions_4 rfl) ?_
  refine mb_l_cons (ms_icmp_ge dX7_keepVersions_7 rfl rfl) ?_
  refine mb_l_cons (ms_aload_n dX7_keepVersions_10 rfl rfl) ?_
  refine mb_l_cons (ms_iload_n dX7_keepVersions_11 rfl rfl) ?_
  refine mb_l_cons (ms_aload_n dX7_keepVersions_12 rfl rfl) ?_
  refine mb_l_cons (ms_aload_n dX7_keepVersions_13 rfl rfl) ?_
  refine mb_l_cons (ms_aload_n dX7_keepVersions_14 rfl rfl) ?_
  refine mb_l_cons (ms_iload_n dX7_keepVersions_15 rfl rfl) ?_
  refine mb_l_cons (ms_callv (ci := 7) hX (y := 69) (y0 := yX7_seenVersion) (bytes := cX7_seenVersion) rfl (C := RX7) (T := TX7) (N := 7) rfl mq_X7_286_X7_seenVersion mw_348 mw_350 mw_5 dX7_keepVersions_16 (fun _ _ _ h => nomatch h) rfl) ?_
  refine mb_l_cons (ms_callv (ci := 3) hX (y := 18) (y0 := yX3_keepVersion) (bytes := cX3_keepVersion) rfl (C := RX3) (T := TX3) (N := 3) rfl mq_X7_294_X3_keepVersion mw_381 mw_382 mw_383 dX7_keepVersions_19 (fun _ _ _ h => nomatch h) rfl) ?_
  refine mb_l_cons (ms_iinc dX7_keepVersions_22 rfl rfl) ?_
  refine mb_l_cons (ms_goto dX7_keepVersions_25 rfl) ?_
  refine mb_l_cons (ms_vret dX7_keepVersions_28 rfl) ?_
  exact mb_l_nil
theorem mr_X7_countRendering (hX : mb_Fx l D cT s0 args0) : ∀ pc i, mb_look mc_X7_countRendering pc = some i → mb_Snd l D cT s0 mb_mt RX7 "countRendering" cX7_countRendering 2 none [] pc i := by
  unfold mc_X7_countRendering
  refine mb_l_cons (ms_aload_n dX7_countRendering_0 rfl rfl) ?_
  refine mb_l_cons (ms_dup dX7_countRendering_1 rfl) ?_
  refine mb_l_cons (ms_getf (ci := 3) (kf := 2) hX (C := RX3) (T := TX3) (N := 3) rfl (by decide) mu_X3 (Or.inr ⟨_, mw_304⟩) dX7_countRendering_2 rfl) ?_
  refine mb_l_cons (ms_iconst dX7_countRendering_5 rfl rfl) ?_
  refine mb_l_cons (ms_iadd dX7_countRendering_6 rfl) ?_
  refine mb_l_cons (ms_putf (ci := 3) (kf := 2) (z := 0) hX (C := RX3) (T := TX3) (N := 3) rfl (by decide) mu_X3 tyX3 tyX3_ok nmX3 (Or.inl ⟨rfl, rfl⟩) rfl (Or.inr ⟨_, mw_304⟩) dX7_countRendering_7 rfl) ?_
  refine mb_l_cons (ms_aload_n dX7_countRendering_10 rfl rfl) ?_
  refine mb_l_cons (ms_dup dX7_countRendering_11 rfl) ?_
  refine mb_l_cons (ms_getf (ci := 7) (kf := 6) hX (C := RX7) (T := TX7) (N := 7) rfl (by decide) mu_X7 (Or.inl mw_57) dX7_countRendering_12 rfl) ?_
  refine mb_l_cons (ms_iconst dX7_countRendering_15 rfl rfl) ?_
  refine mb_l_cons (ms_iadd dX7_countRendering_16 rfl) ?_
  refine mb_l_cons (ms_putf (ci := 7) (kf := 6) (z := 0) hX (C := RX7) (T := TX7) (N := 7) rfl (by decide) mu_X7 tyX7 tyX7_ok nmX7 (Or.inl ⟨rfl, rfl⟩) rfl (Or.inl mw_57) dX7_countRendering_17 rfl) ?_
  refine mb_l_cons (ms_vret dX7_countRendering_20 rfl) ?_
  exact mb_l_nil
theorem mr_X7_isStale (hX : mb_Fx l D cT s0 args0) : ∀ pc i, mb_look mc_X7_isStale pc = some i → mb_Snd l D cT s0 mb_mt RX7 "isStale" cX7_isStale 6 (some .boolean) [] pc i := by
  unfold mc_X7_isStale
  refine mb_l_cons (ms_aload_n dX7_isStale_0 rfl rfl) ?_
  refine mb_l_cons (ms_getf (ci := 3) (kf := 2) hX (C := RX3) (T := TX3) (N := 3) rfl (by decide) mu_X3 (Or.inr ⟨_, mw_304⟩) dX7_isStale_1 rfl) ?_
  refine mb_l_cons (ms_if_ne dX7_isStale_4 rfl rfl) ?_
  refine mb_l_cons (ms_iconst dX7_isStale_7 rfl rfl) ?_
  refine mb_l_cons (ms_zret dX7_isStale_8 rfl) ?_
  refine mb_l_cons (ms_iconst dX7_isStale_9 rfl rfl) ?_
  refine mb_l_cons (ms_istore_n dX7_isStale_10 rfl rfl) ?_
  refine mb_l_cons (ms_iload_n dX7_isStale_11 rfl rfl) ?_
  refine mb_l_cons (ms_aload_n dX7_isStale_12 rfl rfl) ?_
  refine mb_l_cons (ms_getf (ci := 7) (kf := 3) hX (C := RX7) (T := TX7) (N := 7) rfl (by decide) mu_X7 (Or.inl mw_54) dX7_isStale_13 rfl) ?_
  refine mb_l_cons (ms_icmp_ge dX7_isStale_16 rfl rfl) ?_
  refine mb_l_cons (ms_aload_n dX7_isStale_19 rfl rfl) ?_
  refine mb_l_cons (ms_iload_n dX7_isStale_20 rfl rfl) ?_
  refine mb_l_cons (ms_callv (ci := 7) hX (y := 62) (y0 := yX7_assetAt) (bytes := cX7_assetAt) rfl (C := RX7) (T := TX7) (N := 7) rfl mq_X7_39_X7_assetAt mw_194 mw_196 mw_2 dX7_isStale_21 (fun _ _ _ h => nomatch h) rfl) ?_
  refine mb_l_cons (ms_astore dX7_isStale_24 rfl) ?_
  refine mb_l_cons (ms_aload_n dX7_isStale_26 rfl rfl) ?_
  refine mb_l_cons (ms_aload_n dX7_isStale_27 rfl rfl) ?_
  refine mb_l_cons (ms_aload_n dX7_isStale_28 rfl rfl) ?_
  refine mb_l_cons (ms_iload_n dX7_isStale_29 rfl rfl) ?_
  refine mb_l_cons (ms_callv (ci := 7) hX (y := 69) (y0 := yX7_seenVersion) (bytes := cX7_seenVersion) rfl (C := RX7) (T := TX7) (N := 7) rfl mq_X7_286_X7_seenVersion mw_348 mw_350 mw_5 dX7_isStale_30 (fun _ _ _ h => nomatch h) rfl) ?_
  refine mb_l_cons (ms_istore dX7_isStale_33 rfl) ?_
  refine mb_l_cons (ms_aload dX7_isStale_35 rfl) ?_
  refine mb_l_cons (ms_ifnull dX7_isStale_37 rfl rfl) ?_
  refine mb_l_cons (ms_aload dX7_isStale_40 rfl) ?_
  refine mb_l_cons (ms_aload_n dX7_isStale_42 rfl rfl) ?_
  refine mb_l_cons (ms_iload_n dX7_isStale_43 rfl rfl) ?_
  refine mb_l_cons (ms_callv (ci := 3) hX (y := 17) (y0 := yX3_versionOf) (bytes := cX3_versionOf) rfl (C := RX3) (T := TX3) (N := 3) rfl mq_X7_251_X3_versionOf mw_360 mw_361 mw_362 dX7_isStale_44 (fun _ _ _ h => nomatch h) rfl) ?_
  refine mb_l_cons (ms_iload dX7_isStale_47 rfl) ?_
  refine mb_l_cons (ms_aload_n dX7_isStale_49 rfl rfl) ?_
  refine mb_l_cons (ms_getf (ci := 3) (kf := 0) hX (C := RX3) (T := TX3) (N := 3) rfl (by decide) mu_X3 (Or.inr ⟨_, mw_302⟩) dX7_isStale_50 rfl) ?_
  refine mb_l_cons (ms_callv (ci := 0) hX (y := 3) (y0 := yX0_looksAlike) (bytes := cX0_looksAlike) rfl (C := RX0) (T := TX0) (N := 3) rfl mq_X7_297_X0_looksAlike mw_364 mw_365 mw_366 dX7_isStale_53 (fun _ _ _ h => nomatch h) rfl) ?_
  refine mb_l_cons (ms_if_ne dX7_isStale_56 rfl rfl) ?_
  refine mb_l_cons (ms_iconst dX7_isStale_59 rfl rfl) ?_
  refine mb_l_cons (ms_zret dX7_isStale_60 rfl) ?_
  refine mb_l_cons (ms_iinc dX7_isStale_61 rfl rfl) ?_
  refine mb_l_cons (ms_goto dX7_isStale_64 rfl) ?_
  refine mb_l_cons (ms_iconst dX7_isStale_67 rfl rfl) ?_
  refine mb_l_cons (ms_zret dX7_isStale_68 rfl) ?_
  exact mb_l_nil
theorem mr_X7_staleFrames (hX : mb_Fx l D cT s0 args0) : ∀ pc i, mb_look mc_X7_staleFrames pc = some i → mb_Snd l D cT s0 mb_mt RX7 "staleFrames" cX7_staleFrames 5 (some .int) [] pc i := by
  unfold mc_X7_staleFrames
  refine mb_l_cons (ms_iconst dX7_staleFrames_0 rfl rfl) ?_
  refine mb_l_cons (ms_istore_n dX7_staleFrames_1 rfl rfl) ?_
  refine mb_l_cons (ms_iconst dX7_staleFrames_2 rfl rfl) ?_
  refine mb_l_cons (ms_istore_n dX7_staleFrames_3 rfl rfl) ?_
  refine mb_l_cons (ms_iload_n dX7_staleFrames_4 rfl rfl) ?_
  refine mb_l_cons (ms_aload_n dX7_staleFrames_5 rfl rfl) ?_
  refine mb_l_cons (ms_getf (ci := 6) (kf := 2) hX (C := RX6) (T := TX6) (N := 4) rfl (by decide) mu_X6 (Or.inr ⟨_, mw_315⟩) dX7_staleFrames_6 rfl) ?_
  refine mb_l_cons (ms_icmp_ge dX7_staleFrames_9 rfl rfl) ?_
  refine mb_l_cons (ms_aload_n dX7_staleFrames_12 rfl rfl) ?_
  refine mb_l_cons (ms_iload_n dX7_staleFrames_13 rfl rfl) ?_
  refine mb_l_cons (ms_callv (ci := 6) hX (y := 34) (y0 := yX6_frameAt) (bytes := cX6_frameAt) rfl (C := RX6) (T := TX6) (N := 4) rfl mq_X7_208_X6_frameAt mw_336 mw_337 mw_338 dX7_staleFrames_14 (fun _ _ _ h => nomatch h) rfl) ?_
  refine mb_l_cons (ms_astore dX7_staleFrames_17 rfl) ?_
  refine mb_l_cons (ms_aload dX7_staleFrames_19 rfl) ?_
  refine mb_l_cons (ms_ifnull dX7_staleFrames_21 rfl rfl) ?_
  refine mb_l_cons (ms_aload_n dX7_staleFrames_24 rfl rfl) ?_
  refine mb_l_cons (ms_aload_n dX7_staleFrames_25 rfl rfl) ?_
  refine mb_l_cons (ms_aload dX7_staleFrames_26 rfl) ?_
  refine mb_l_cons (ms_callv (ci := 7) hX (y := 74) (y0 := yX7_isStale) (bytes := cX7_isStale) rfl (C := RX7) (T := TX7) (N := 7) rfl mq_X7_212_X7_isStale mw_344 mw_346 mw_4 dX7_staleFrames_28 (fun _ _ _ h => nomatch h) rfl) ?_
  refine mb_l_cons (ms_if_eq dX7_staleFrames_31 rfl rfl) ?_
  refine mb_l_cons (ms_iinc dX7_staleFrames_34 rfl rfl) ?_
  refine mb_l_cons (ms_iinc dX7_staleFrames_37 rfl rfl) ?_
  refine mb_l_cons (ms_goto dX7_staleFrames_40 rfl) ?_
  refine mb_l_cons (ms_iload_n dX7_staleFrames_43 rfl rfl) ?_
  refine mb_l_cons (ms_iret dX7_staleFrames_44 rfl) ?_
  exact mb_l_nil
theorem mr_X7_moveNotes (hX : mb_Fx l D cT s0 args0) : ∀ pc i, mb_look mc_X7_moveNotes pc = some i → mb_Snd l D cT s0 mb_mt RX7 "moveNotes" cX7_moveNotes 7 none [] pc i := by
  unfold mc_X7_moveNotes
  refine mb_l_cons (ms_iconst dX7_moveNotes_0 rfl rfl) ?_
  refine mb_l_cons (ms_istore dX7_moveNotes_1 rfl) ?_
  refine mb_l_cons (ms_iload dX7_moveNotes_3 rfl) ?_
  refine mb_l_cons (ms_aload_n dX7_moveNotes_5 rfl rfl) ?_
  refine mb_l_cons (ms_getf (ci := 7) (kf := 5) hX (C := RX7) (T := TX7) (N := 7) rfl (by decide) mu_X7 (Or.inl mw_56) dX7_moveNotes_6 rfl) ?_
  refine mb_l_cons (ms_icmp_ge dX7_moveNotes_9 rfl rfl) ?_
  refine mb_l_cons (ms_aload_n dX7_moveNotes_12 rfl rfl) ?_
  refine mb_l_cons (ms_iload dX7_moveNotes_13 rfl) ?_
  refine mb_l_cons (ms_callv (ci := 7) hX (y := 64) (y0 := yX7_noteAt) (bytes := cX7_noteAt) rfl (C := RX7) (T := TX7) (N := 7) rfl mq_X7_179_X7_noteAt mw_425 mw_427 mw_12 dX7_moveNotes_15 (fun _ _ _ h => nomatch h) rfl) ?_
  refine mb_l_cons (ms_astore dX7_moveNotes_18 rfl) ?_
  refine mb_l_cons (ms_aload dX7_moveNotes_20 rfl) ?_
  refine mb_l_cons (ms_ifnull dX7_moveNotes_22 rfl rfl) ?_
  refine mb_l_cons (ms_aload dX7_moveNotes_25 rfl) ?_
  refine mb_l_cons (ms_getf (ci := 4) (kf := 0) hX (C := RX4) (T := TX4) (N := 4) rfl (by decide) mu_X4 (Or.inr ⟨_, mw_614⟩) dX7_moveNotes_27 rfl) ?_
  refine mb_l_cons (ms_iload_n dX7_moveNotes_30 rfl rfl) ?_
  refine mb_l_cons (ms_icmp_ne dX7_moveNotes_31 rfl rfl) ?_
  refine mb_l_cons (ms_aload dX7_moveNotes_34 rfl) ?_
  refine mb_l_cons (ms_iload_n dX7_moveNotes_36 rfl rfl) ?_
  refine mb_l_cons (ms_iload_n dX7_moveNotes_37 rfl rfl) ?_
  refine mb_l_cons (ms_iload dX7_moveNotes_38 rfl) ?_
  refine mb_l_cons (ms_callv (ci := 4) hX (y := 20) (y0 := yX4_followCut) (bytes := cX4_followCut) rfl (C := RX4) (T := TX4) (N := 4) rfl mq_X7_301_X4_followCut mw_599 mw_600 mw_601 dX7_moveNotes_40 (fun _ _ _ h => nomatch h) rfl) ?_
  refine mb_l_cons (ms_iinc dX7_moveNotes_43 rfl rfl) ?_
  refine mb_l_cons (ms_goto dX7_moveNotes_46 rfl) ?_
  refine mb_l_cons (ms_vret dX7_moveNotes_49 rfl) ?_
  exact mb_l_nil
theorem mr_X7_openNotesOfScene (hX : mb_Fx l D cT s0 args0) : ∀ pc i, mb_look mc_X7_openNotesOfScene pc = some i → mb_Snd l D cT s0 mb_mt RX7 "openNotesOfScene" cX7_openNotesOfScene 5 (some .int) [] pc i := by
  unfold mc_X7_openNotesOfScene
  refine mb_l_cons (ms_iconst dX7_openNotesOfScene_0 rfl rfl) ?_
  refine mb_l_cons (ms_istore_n dX7_openNotesOfScene_1 rfl rfl) ?_
  refine mb_l_cons (ms_iconst dX7_openNotesOfScene_2 rfl rfl) ?_
  refine mb_l_cons (ms_istore_n dX7_openNotesOfScene_3 rfl rfl) ?_
  refine mb_l_cons (ms_iload_n dX7_openNotesOfScene_4 rfl rfl) ?_
  refine mb_l_cons (ms_aload_n dX7_openNotesOfScene_5 rfl rfl) ?_
  refine mb_l_cons (ms_getf (ci := 7) (kf := 5) hX (C := RX7) (T := TX7) (N := 7) rfl (by decide) mu_X7 (Or.inl mw_56) dX7_openNotesOfScene_6 rfl) ?_
  refine mb_l_cons (ms_icmp_ge dX7_openNotesOfScene_9 rfl rfl) ?_
  refine mb_l_cons (ms_aload_n dX7_openNotesOfScene_12 rfl rfl) ?_
  refine mb_l_cons (ms_iload_n dX7_openNotesOfScene_13 rfl rfl) ?_
  refine mb_l_cons (ms_callv (ci := 7) hX (y := 64) (y0 := yX7_noteAt) (bytes := cX7_noteAt) rfl (C := RX7) (T := TX7) (N := 7) rfl mq_X7_179_X7_noteAt mw_425 mw_427 mw_12 dX7_openNotesOfScene_14 (fun _ _ _ h => nomatch h) rfl) ?_
  refine mb_l_cons (ms_astore dX7_openNotesOfScene_17 rfl) ?_
  refine mb_l_cons (ms_aload dX7_openNotesOfScene_19 rfl) ?_
  refine mb_l_cons (ms_ifnull dX7_openNotesOfScene_21 rfl rfl) ?_
  refine mb_l_cons (ms_aload dX7_openNotesOfScene_24 rfl) ?_
  refine mb_l_cons (ms_getf (ci := 4) (kf := 3) hX (C := RX4) (T := TX4) (N := 4) rfl (by decide) mu_X4 (Or.inr ⟨_, mw_619⟩) dX7_openNotesOfScene_26 rfl) ?_
  refine mb_l_cons (ms_if_ne dX7_openNotesOfScene_29 rfl rfl) ?_
  refine mb_l_cons (ms_aload dX7_openNotesOfScene_32 rfl) ?_
  refine mb_l_cons (ms_getf (ci := 4) (kf := 0) hX (C := RX4) (T := TX4) (N := 4) rfl (by decide) mu_X4 (Or.inr ⟨_, mw_614⟩) dX7_openNotesOfScene_34 rfl) ?_
  refine mb_l_cons (ms_iload_n dX7_openNotesOfScene_37 rfl rfl) ?_
  refine mb_l_cons (ms_icmp_ne dX7_openNotesOfScene_38 rfl rfl) ?_
  refine mb_l_cons (ms_iinc dX7_openNotesOfScene_41 rfl rfl) ?_
  refine mb_l_cons (ms_iinc dX7_openNotesOfScene_44 rfl rfl) ?_
  refine mb_l_cons (ms_goto dX7_openNotesOfScene_47 rfl) ?_
  refine mb_l_cons (ms_iload_n dX7_openNotesOfScene_50 rfl rfl) ?_
  refine mb_l_cons (ms_iret dX7_openNotesOfScene_51 rfl) ?_
  exact mb_l_nil
theorem mr_X7_openNotesOfFrame (hX : mb_Fx l D cT s0 args0) : ∀ pc i, mb_look mc_X7_openNotesOfFrame pc = some i → mb_Snd l D cT s0 mb_mt RX7 "openNotesOfFrame" cX7_openNotesOfFrame 6 (some .int) [] pc i := by
  unfold mc_X7_openNotesOfFrame
  refine mb_l_cons (ms_iconst dX7_openNotesOfFrame_0 rfl rfl) ?_
  refine mb_l_cons (ms_istore_n dX7_openNotesOfFrame_1 rfl rfl) ?_
  refine mb_l_cons (ms_iconst dX7_openNotesOfFrame_2 rfl rfl) ?_
  refine mb_l_cons (ms_istore dX7_openNotesOfFrame_3 rfl) ?_
  refine mb_l_cons (ms_iload dX7_openNotesOfFrame_5 rfl) ?_
  refine mb_l_cons (ms_aload_n dX7_openNotesOfFrame_7 rfl rfl) ?_
  refine mb_l_cons (ms_getf (ci := 7) (kf := 5) hX (C := RX7) (T := TX7) (N := 7) rfl (by decide) mu_X7 (Or.inl mw_56) dX7_openNotesOfFrame_8 rfl) ?_
  refine mb_l_cons (ms_icmp_ge dX7_openNotesOfFrame_11 rfl rfl) ?_
  refine mb_l_cons (ms_aload_n dX7_openNotesOfFrame_14 rfl rfl) ?_
  refine mb_l_cons (ms_iload dX7_openNotesOfFrame_15 rfl) ?_
  refine mb_l_cons (ms_callv (ci := 7) hX (y := 64) (y0 := yX7_noteAt) (bytes := cX7_noteAt) rfl (C := RX7) (T := TX7) (N := 7) rfl mq_X7_179_X7_noteAt mw_425 mw_427 mw_12 dX7_openNotesOfFrame_17 (fun _ _ _ h => nomatch h) rfl) ?_
  refine mb_l_cons (ms_astore dX7_openNotesOfFrame_20 rfl) ?_
  refine mb_l_cons (ms_aload dX7_openNotesOfFrame_22 rfl) ?_
  refine mb_l_cons (ms_ifnull dX7_openNotesOfFrame_24 rfl rfl) ?_
  refine mb_l_cons (ms_aload dX7_openNotesOfFrame_27 rfl) ?_
  refine mb_l_cons (ms_getf (ci := 4) (kf := 3) hX (C := RX4) (T := TX4) (N := 4) rfl (by decide) mu_X4 (Or.inr ⟨_, mw_619⟩) dX7_openNotesOfFrame_29 rfl) ?_
  refine mb_l_cons (ms_if_ne dX7_openNotesOfFrame_32 rfl rfl) ?_
  refine mb_l_cons (ms_aload dX7_openNotesOfFrame_35 rfl) ?_
  refine mb_l_cons (ms_getf (ci := 4) (kf := 0) hX (C := RX4) (T := TX4) (N := 4) rfl (by decide) mu_X4 (Or.inr ⟨_, mw_614⟩) dX7_openNotesOfFrame_37 rfl) ?_
  refine mb_l_cons (ms_iload_n dX7_openNotesOfFrame_40 rfl rfl) ?_
  refine mb_l_cons (ms_icmp_ne dX7_openNotesOfFrame_41 rfl rfl) ?_
  refine mb_l_cons (ms_aload dX7_openNotesOfFrame_44 rfl) ?_
  refine mb_l_cons (ms_getf (ci := 4) (kf := 1) hX (C := RX4) (T := TX4) (N := 4) rfl (by decide) mu_X4 (Or.inr ⟨_, mw_616⟩) dX7_openNotesOfFrame_46 rfl) ?_
  refine mb_l_cons (ms_iload_n dX7_openNotesOfFrame_49 rfl rfl) ?_
  refine mb_l_cons (ms_icmp_ne dX7_openNotesOfFrame_50 rfl rfl) ?_
  refine mb_l_cons (ms_iinc dX7_openNotesOfFrame_53 rfl rfl) ?_
  refine mb_l_cons (ms_iinc dX7_openNotesOfFrame_56 rfl rfl) ?_
  refine mb_l_cons (ms_goto dX7_openNotesOfFrame_59 rfl) ?_
  refine mb_l_cons (ms_iload_n dX7_openNotesOfFrame_62 rfl rfl) ?_
  refine mb_l_cons (ms_iret dX7_openNotesOfFrame_63 rfl) ?_
  exact mb_l_nil
theorem mr_X7_scenesThatCast (hX : mb_Fx l D cT s0 args0) : ∀ pc i, mb_look mc_X7_scenesThatCast pc = some i → mb_Snd l D cT s0 mb_mt RX7 "scenesThatCast" cX7_scenesThatCast 5 (some .int) [] pc i := by
  unfold mc_X7_scenesThatCast
  refine mb_l_cons (ms_iconst dX7_scenesThatCast_0 rfl rfl) ?_
  refine mb_l_cons (ms_istore_n dX7_scenesThatCast_1 rfl rfl) ?_
  refine mb_l_cons (ms_iconst dX7_scenesThatCast_2 rfl rfl) ?_
  refine mb_l_cons (ms_istore_n dX7_scenesThatCast_3 rfl rfl) ?_
  refine mb_l_cons (ms_iload_n dX7_scenesThatCast_4 rfl rfl) ?_
  refine mb_l_cons (ms_aload_n dX7_scenesThatCast_5 rfl rfl) ?_
  refine mb_l_cons (ms_getf (ci := 7) (kf := 4) hX (C := RX7) (T := TX7) (N := 7) rfl (by decide) mu_X7 (Or.inl mw_55) dX7_scenesThatCast_6 rfl) ?_
  refine mb_l_cons (ms_icmp_ge dX7_scenesThatCast_9 rfl rfl) ?_
  refine mb_l_cons (ms_aload_n dX7_scenesThatCast_12 rfl rfl) ?_
  refine mb_l_cons (ms_iload_n dX7_scenesThatCast_13 rfl rfl) ?_
  refine mb_l_cons (ms_callv (ci := 7) hX (y := 63) (y0 := yX7_sceneAt) (bytes := cX7_sceneAt) rfl (C := RX7) (T := TX7) (N := 7) rfl mq_X7_137_X7_sceneAt mw_331 mw_333 mw_3 dX7_scenesThatCast_14 (fun _ _ _ h => nomatch h) rfl) ?_
  refine mb_l_cons (ms_astore dX7_scenesThatCast_17 rfl) ?_
  refine mb_l_cons (ms_aload dX7_scenesThatCast_19 rfl) ?_
  refine mb_l_cons (ms_ifnull dX7_scenesThatCast_21 rfl rfl) ?_
  refine mb_l_cons (ms_aload dX7_scenesThatCast_24 rfl) ?_
  refine mb_l_cons (ms_iload_n dX7_scenesThatCast_26 rfl rfl) ?_
  refine mb_l_cons (ms_callv (ci := 6) hX (y := 35) (y0 := yX6_castingOf) (bytes := cX6_castingOf) rfl (C := RX6) (T := TX6) (N := 4) rfl mq_X7_274_X6_castingOf mw_352 mw_353 mw_354 dX7_scenesThatCast_27 (fun _ _ _ h => nomatch h) rfl) ?_
  refine mb_l_cons (ms_ifnull dX7_scenesThatCast_30 rfl rfl) ?_
  refine mb_l_cons (ms_iinc dX7_scenesThatCast_33 rfl rfl) ?_
  refine mb_l_cons (ms_iinc dX7_scenesThatCast_36 rfl rfl) ?_
  refine mb_l_cons (ms_goto dX7_scenesThatCast_39 rfl) ?_
  refine mb_l_cons (ms_iload_n dX7_scenesThatCast_42 rfl rfl) ?_
  refine mb_l_cons (ms_iret dX7_scenesThatCast_43 rfl) ?_
  exact mb_l_nil
theorem mr_X7_allVersions (hX : mb_Fx l D cT s0 args0) : ∀ pc i, mb_look mc_X7_allVersions pc = some i → mb_Snd l D cT s0 mb_mt RX7 "allVersions" cX7_allVersions 4 (some .int) [] pc i := by
  unfold mc_X7_allVersions
  refine mb_l_cons (ms_iconst dX7_allVersions_0 rfl rfl) ?_
  refine mb_l_cons (ms_istore_n dX7_allVersions_1 rfl rfl) ?_
  refine mb_l_cons (ms_iconst dX7_allVersions_2 rfl rfl) ?_
  refine mb_l_cons (ms_istore_n dX7_allVersions_3 rfl rfl) ?_
  refine mb_l_cons (ms_iload_n dX7_allVersions_4 rfl rfl) ?_
  refine mb_l_cons (ms_aload_n dX7_allVersions_5 rfl rfl) ?_
  refine mb_l_cons (ms_getf (ci := 7) (kf := 3) hX (C := RX7) (T := TX7) (N := 7) rfl (by decide) mu_X7 (Or.inl mw_54) dX7_allVersions_6 rfl) ?_
  refine mb_l_cons (ms_icmp_ge dX7_allVersions_9 rfl rfl) ?_
  refine mb_l_cons (ms_aload_n dX7_allVersions_12 rfl rfl) ?_
  refine mb_l_cons (ms_iload_n dX7_allVersions_13 rfl rfl) ?_
  refine mb_l_cons (ms_callv (ci := 7) hX (y := 62) (y0 := yX7_assetAt) (bytes := cX7_assetAt) rfl (C := RX7) (T := TX7) (N := 7) rfl mq_X7_39_X7_assetAt mw_194 mw_196 mw_2 dX7_allVersions_14 (fun _ _ _ h => nomatch h) rfl) ?_
  refine mb_l_cons (ms_astore_n dX7_allVersions_17 rfl rfl) ?_
  refine mb_l_cons (ms_aload_n dX7_allVersions_18 rfl rfl) ?_
  refine mb_l_cons (ms_ifnull dX7_allVersions_19 rfl rfl) ?_
  refine mb_l_cons (ms_iload_n dX7_allVersions_22 rfl rfl) ?_
  refine mb_l_cons (ms_aload_n dX7_allVersions_23 rfl rfl) ?_
  refine mb_l_cons (ms_getf (ci := 0) (kf := 2) hX (C := RX0) (T := TX0) (N := 3) rfl (by decide) mu_X0 (Or.inr ⟨_, mw_178⟩) dX7_allVersions_24 rfl) ?_
  refine mb_l_cons (ms_iadd dX7_allVersions_27 rfl) ?_
  refine mb_l_cons (ms_istore_n dX7_allVersions_28 rfl rfl) ?_
  refine mb_l_cons (ms_iinc dX7_allVersions_29 rfl rfl) ?_
  refine mb_l_cons (ms_goto dX7_allVersions_32 rfl) ?_
  refine mb_l_cons (ms_iload_n dX7_allVersions_35 rfl rfl) ?_
  refine mb_l_cons (ms_iret dX7_allVersions_36 rfl) ?_
  exact mb_l_nil
theorem mr_X7_allFrames (hX : mb_Fx l D cT s0 args0) : ∀ pc i, mb_look mc_X7_allFrames pc = some i → mb_Snd l D cT s0 mb_mt RX7 "allFrames" cX7_allFrames 4 (some .int) [] pc i := by
  unfold mc_X7_allFrames
  refine mb_l_cons (ms_iconst dX7_allFrames_0 rfl rfl) ?_
  refine mb_l_cons (ms_istore_n dX7_allFrames_1 rfl rfl) ?_
  refine mb_l_cons (ms_iconst dX7_allFrames_2 rfl rfl) ?_
  refine mb_l_cons (ms_istore_n dX7_allFrames_3 rfl rfl) ?_
  refine mb_l_cons (ms_iload_n dX7_allFrames_4 rfl rfl) ?_
  refine mb_l_cons (ms_aload_n dX7_allFrames_5 rfl rfl) ?_
  refine mb_l_cons (ms_getf (ci := 7) (kf := 4) hX (C := RX7) (T := TX7) (N := 7) rfl (by decide) mu_X7 (Or.inl mw_55) dX7_allFrames_6 rfl) ?_
  refine mb_l_cons (ms_icmp_ge dX7_allFrames_9 rfl rfl) ?_
  refine mb_l_cons (ms_aload_n dX7_allFrames_12 rfl rfl) ?_
  refine mb_l_cons (ms_iload_n dX7_allFrames_13 rfl rfl) ?_
  refine mb_l_cons (ms_callv (ci := 7) hX (y := 63) (y0 := yX7_sceneAt) (bytes := cX7_sceneAt) rfl (C := RX7) (T := TX7) (N := 7) rfl mq_X7_137_X7_sceneAt mw_331 mw_333 mw_3 dX7_allFrames_14 (fun _ _ _ h => nomatch h) rfl) ?_
  refine mb_l_cons (ms_astore_n dX7_allFrames_17 rfl rfl) ?_
  refine mb_l_cons (ms_aload_n dX7_allFrames_18 rfl rfl) ?_
  refine mb_l_cons (ms_ifnull dX7_allFrames_19 rfl rfl) ?_
  refine mb_l_cons (ms_iload_n dX7_allFrames_22 rfl rfl) ?_
  refine mb_l_cons (ms_aload_n dX7_allFrames_23 rfl rfl) ?_
  refine mb_l_cons (ms_getf (ci := 6) (kf := 2) hX (C := RX6) (T := TX6) (N := 4) rfl (by decide) mu_X6 (Or.inr ⟨_, mw_315⟩) dX7_allFrames_24 rfl) ?_
  refine mb_l_cons (ms_iadd dX7_allFrames_27 rfl) ?_
  refine mb_l_cons (ms_istore_n dX7_allFrames_28 rfl rfl) ?_
  refine mb_l_cons (ms_iinc dX7_allFrames_29 rfl rfl) ?_
  refine mb_l_cons (ms_goto dX7_allFrames_32 rfl) ?_
  refine mb_l_cons (ms_iload_n dX7_allFrames_35 rfl rfl) ?_
  refine mb_l_cons (ms_iret dX7_allFrames_36 rfl) ?_
  exact mb_l_nil
theorem mr_X7_allStaleFrames (hX : mb_Fx l D cT s0 args0) : ∀ pc i, mb_look mc_X7_allStaleFrames pc = some i → mb_Snd l D cT s0 mb_mt RX7 "allStaleFrames" cX7_allStaleFrames 4 (some .int) [] pc i := by
  unfold mc_X7_allStaleFrames
  refine mb_l_cons (ms_iconst dX7_allStaleFrames_0 rfl rfl) ?_
  refine mb_l_cons (ms_istore_n dX7_allStaleFrames_1 rfl rfl) ?_
  refine mb_l_cons (ms_iconst dX7_allStaleFrames_2 rfl rfl) ?_
  refine mb_l_cons (ms_istore_n dX7_allStaleFrames_3 rfl rfl) ?_
  refine mb_l_cons (ms_iload_n dX7_allStaleFrames_4 rfl rfl) ?_
  refine mb_l_cons (ms_aload_n dX7_allStaleFrames_5 rfl rfl) ?_
  refine mb_l_cons (ms_getf (ci := 7) (kf := 4) hX (C := RX7) (T := TX7) (N := 7) rfl (by decide) mu_X7 (Or.inl mw_55) dX7_allStaleFrames_6 rfl) ?_
  refine mb_l_cons (ms_icmp_ge dX7_allStaleFrames_9 rfl rfl) ?_
  refine mb_l_cons (ms_aload_n dX7_allStaleFrames_12 rfl rfl) ?_
  refine mb_l_cons (ms_iload_n dX7_allStaleFrames_13 rfl rfl) ?_
  refine mb_l_cons (ms_callv (ci := 7) hX (y := 63) (y0 := yX7_sceneAt) (bytes := cX7_sceneAt) rfl (C := RX7) (T := TX7) (N := 7) rfl mq_X7_137_X7_sceneAt mw_331 mw_333 mw_3 dX7_allStaleFrames_14 (fun _ _ _ h => nomatch h) rfl) ?_
  refine mb_l_cons (ms_astore_n dX7_allStaleFrames_17 rfl rfl) ?_
  refine mb_l_cons (ms_aload_n dX7_allStaleFrames_18 rfl rfl) ?_
  refine mb_l_cons (ms_ifnull dX7_allStaleFrames_19 rfl rfl) ?_
  refine mb_l_cons (ms_iload_n dX7_allStaleFrames_22 rfl rfl) ?_
  refine mb_l_cons (ms_aload_n dX7_allStaleFrames_23 rfl rfl) ?_
  refine mb_l_cons (ms_aload_n dX7_allStaleFrames_24 rfl rfl) ?_
  refine mb_l_cons (ms_callv (ci := 7) hX (y := 75) (y0 := yX7_staleFrames) (bytes := cX7_staleFrames) rfl (C := RX7) (T := TX7) (N := 7) rfl mq_X7_224_X7_staleFrames mw_389 mw_391 mw_8 dX7_allStaleFrames_25 (fun _ _ _ h => nomatch h) rfl) ?_
  refine mb_l_cons (ms_iadd dX7_allStaleFrames_28 rfl) ?_
  refine mb_l_cons (ms_istore_n dX7_allStaleFrames_29 rfl rfl) ?_
  refine mb_l_cons (ms_iinc dX7_allStaleFrames_30 rfl rfl) ?_
  refine mb_l_cons (ms_goto dX7_allStaleFrames_33 rfl) ?_
  refine mb_l_cons (ms_iload_n dX7_allStaleFrames_36 rfl rfl) ?_
  refine mb_l_cons (ms_iret dX7_allStaleFrames_37 rfl) ?_
  exact mb_l_nil
theorem mr_X7_allOpenNotes (hX : mb_Fx l D cT s0 args0) : ∀ pc i, mb_look mc_X7_allOpenNotes pc = some i → mb_Snd l D cT s0 mb_mt RX7 "allOpenNotes" cX7_allOpenNotes 4 (some .int) [] pc i := by
  unfold mc_X7_allOpenNotes
  refine mb_l_cons (ms_iconst dX7_allOpenNotes_0 rfl rfl) ?_
  refine mb_l_cons (ms_istore_n dX7_allOpenNotes_1 rfl rfl) ?_
  refine mb_l_cons (ms_iconst dX7_allOpenNotes_2 rfl rfl) ?_
  refine mb_l_cons (ms_istore_n dX7_allOpenNotes_3 rfl rfl) ?_
  refine mb_l_cons (ms_iload_n dX7_allOpenNotes_4 rfl rfl) ?_
  refine mb_l_cons (ms_aload_n dX7_allOpenNotes_5 rfl rfl) ?_
  refine mb_l_cons (ms_getf (ci := 7) (kf := 5) hX (C := RX7) (T := TX7) (N := 7) rfl (by decide) mu_X7 (Or.inl mw_56) dX7_allOpenNotes_6 rfl) ?_
  refine mb_l_cons (ms_icmp_ge dX7_allOpenNotes_9 rfl rfl) ?_
  refine mb_l_cons (ms_aload_n dX7_allOpenNotes_12 rfl rfl) ?_
  refine mb_l_cons (ms_iload_n dX7_allOpenNotes_13 rfl rfl) ?_
  refine mb_l_cons (ms_callv (ci := 7) hX (y := 64) (y0 := yX7_noteAt) (bytes := cX7_noteAt) rfl (C := RX7) (T := TX7) (N := 7) rfl mq_X7_179_X7_noteAt mw_425 mw_427 mw_12 dX7_allOpenNotes_14 (fun _ _ _ h => nomatch h) rfl) ?_
  refine mb_l_cons (ms_astore_n dX7_allOpenNotes_17 rfl rfl) ?_
  refine mb_l_cons (ms_aload_n dX7_allOpenNotes_18 rfl rfl) ?_
  refine mb_l_cons (ms_ifnull dX7_allOpenNotes_19 rfl rfl) ?_
  refine mb_l_cons (ms_aload_n dX7_allOpenNotes_22 rfl rfl) ?_
  refine mb_l_cons (ms_getf (ci := 4) (kf := 3) hX (C := RX4) (T := TX4) (N := 4) rfl (by decide) mu_X4 (Or.inr ⟨_, mw_619⟩) dX7_allOpenNotes_23 rfl) ?_
  refine mb_l_cons (ms_if_ne dX7_allOpenNotes_26 rfl rfl) ?_
  refine mb_l_cons (ms_iinc dX7_allOpenNotes_29 rfl rfl) ?_
  refine mb_l_cons (ms_iinc dX7_allOpenNotes_32 rfl rfl) ?_
  refine mb_l_cons (ms_goto dX7_allOpenNotes_35 rfl) ?_
  refine mb_l_cons (ms_iload_n dX7_allOpenNotes_38 rfl rfl) ?_
  refine mb_l_cons (ms_iret dX7_allOpenNotes_39 rfl) ?_
  exact mb_l_nil
end MBX
