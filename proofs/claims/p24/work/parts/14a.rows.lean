/-! every row of every method is sound -/
section MBX
variable {l : Launch} {D : va_G} {cT : Nat → ClassId} {s0 : State} {args0 : Array Value}
theorem mr_X0_init (hX : mb_Fx l D cT s0 args0) : ∀ pc i, mb_look mc_X0_init pc = some i → mb_Snd l D cT s0 mb_mt RX0 "<init>" cX0_init 1 none [] pc i := by
  unfold mc_X0_init
  refine mb_l_cons (ms_aload_n dX0_init_0 rfl rfl) ?_
  refine mb_l_cons (ms_oinit hX dX0_init_1 rfl mw_149 mw_43 mw_objcode) ?_
  refine mb_l_cons (ms_aload_n dX0_init_4 rfl rfl) ?_
  refine mb_l_cons (ms_new (ci := 5) hX (C := RX5) (T := TX5) (N := 4) rfl mu_X5 tyX5 tyX5_ok mf_X5 rfl mw_150 mw_151 mw_28 dX0_init_5 rfl) ?_
  refine mb_l_cons (ms_dup dX0_init_8 rfl) ?_
  refine mb_l_cons (ms_callin hX (y := 21) (y0 := yX5_init) (bytes := cX5_init) rfl mq_X0_11_X5_init rfl mw_152 mw_153 dX0_init_9 rfl) ?_
  refine mb_l_cons (ms_putF (ci := 0) (kf := 0) (z := 2) hX (C := RX0) (T := TX0) (N := 3) rfl (by decide) mu_X0 tyX0 tyX0_ok nmX0 (Or.inr (Or.inr ⟨rfl, Or.inl ⟨_, rfl⟩⟩)) rfl rfl rfl mw_174 dX0_init_12 rfl) ?_
  refine mb_l_cons (ms_aload_n dX0_init_15 rfl rfl) ?_
  refine mb_l_cons (ms_bipush dX0_init_16 rfl rfl) ?_
  refine mb_l_cons (ms_newq (ci := 5) hX (C := RX5) rfl mw_150 mw_173 dX0_init_18 rfl) ?_
  refine mb_l_cons (ms_putF (ci := 0) (kf := 1) (z := 2) hX (C := RX0) (T := TX0) (N := 3) rfl (by decide) mu_X0 tyX0 tyX0_ok nmX0 (Or.inr (Or.inr ⟨rfl, Or.inr ⟨_, rfl⟩⟩)) rfl rfl rfl mw_176 dX0_init_21 rfl) ?_
  refine mb_l_cons (ms_vret dX0_init_24 rfl) ?_
  exact mb_l_nil
theorem mr_X0_addVersion (hX : mb_Fx l D cT s0 args0) : ∀ pc i, mb_look mc_X0_addVersion pc = some i → mb_Snd l D cT s0 mb_mt RX0 "addVersion" cX0_addVersion 1 (some .int) [] pc i := by
  unfold mc_X0_addVersion
  refine mb_l_cons (ms_aload_n dX0_addVersion_0 rfl rfl) ?_
  refine mb_l_cons (ms_getf (ci := 0) (kf := 2) hX (C := RX0) (T := TX0) (N := 3) rfl (by decide) mu_X0 (Or.inl mw_177) dX0_addVersion_1 rfl) ?_
  refine mb_l_cons (ms_bipush dX0_addVersion_4 rfl rfl) ?_
  refine mb_l_cons (ms_icmp_lt dX0_addVersion_6 rfl rfl) ?_
  refine mb_l_cons (ms_iconst dX0_addVersion_9 rfl rfl) ?_
  refine mb_l_cons (ms_iret dX0_addVersion_10 rfl) ?_
  refine mb_l_cons (ms_aload_n dX0_addVersion_11 rfl rfl) ?_
  refine mb_l_cons (ms_getf (ci := 0) (kf := 1) hX (C := RX0) (T := TX0) (N := 3) rfl (by decide) mu_X0 (Or.inl mw_176) dX0_addVersion_12 rfl) ?_
  refine mb_l_cons (ms_aload_n dX0_addVersion_15 rfl rfl) ?_
  refine mb_l_cons (ms_getf (ci := 0) (kf := 2) hX (C := RX0) (T := TX0) (N := 3) rfl (by decide) mu_X0 (Or.inl mw_177) dX0_addVersion_16 rfl) ?_
  refine mb_l_cons (ms_aload_n dX0_addVersion_19 rfl rfl) ?_
  refine mb_l_cons (ms_getf (ci := 0) (kf := 0) hX (C := RX0) (T := TX0) (N := 3) rfl (by decide) mu_X0 (Or.inl mw_174) dX0_addVersion_20 rfl) ?_
  refine mb_l_cons (ms_callv (ci := 5) hX (y := 30) (y0 := yX5_versionOfIt) (bytes := cX5_versionOfIt) rfl (C := RX5) (T := TX5) (N := 4) rfl mq_X0_26_X5_versionOfIt mw_539 mw_540 mw_541 dX0_addVersion_23 (fun _ _ _ h => nomatch h) rfl) ?_
  refine mb_l_cons (ms_aast (ci := 5) hX (C := RX5) (T := TX5) (N := 4) rfl rfl dX0_addVersion_26 rfl) ?_
  refine mb_l_cons (ms_aload_n dX0_addVersion_27 rfl rfl) ?_
  refine mb_l_cons (ms_dup dX0_addVersion_28 rfl) ?_
  refine mb_l_cons (ms_getf (ci := 0) (kf := 2) hX (C := RX0) (T := TX0) (N := 3) rfl (by decide) mu_X0 (Or.inl mw_177) dX0_addVersion_29 rfl) ?_
  refine mb_l_cons (ms_dupx1 dX0_addVersion_32 rfl) ?_
  refine mb_l_cons (ms_iconst dX0_addVersion_33 rfl rfl) ?_
  refine mb_l_cons (ms_iadd dX0_addVersion_34 rfl) ?_
  refine mb_l_cons (ms_putf (ci := 0) (kf := 2) (z := 0) hX (C := RX0) (T := TX0) (N := 3) rfl (by decide) mu_X0 tyX0 tyX0_ok nmX0 (Or.inl ⟨rfl, rfl⟩) rfl (Or.inl mw_177) dX0_addVersion_35 rfl) ?_
  refine mb_l_cons (ms_iret dX0_addVersion_38 rfl) ?_
  exact mb_l_nil
theorem mr_X0_versionAt (hX : mb_Fx l D cT s0 args0) : ∀ pc i, mb_look mc_X0_versionAt pc = some i → mb_Snd l D cT s0 mb_mt RX0 "versionAt" cX0_versionAt 2 (some (.object "PegbarBarn$Rig")) [] pc i := by
  unfold mc_X0_versionAt
  refine mb_l_cons (ms_iload_n dX0_versionAt_0 rfl rfl) ?_
  refine mb_l_cons (ms_if_lt dX0_versionAt_1 rfl rfl) ?_
  refine mb_l_cons (ms_iload_n dX0_versionAt_4 rfl rfl) ?_
  refine mb_l_cons (ms_aload_n dX0_versionAt_5 rfl rfl) ?_
  refine mb_l_cons (ms_getf (ci := 0) (kf := 2) hX (C := RX0) (T := TX0) (N := 3) rfl (by decide) mu_X0 (Or.inl mw_177) dX0_versionAt_6 rfl) ?_
  refine mb_l_cons (ms_icmp_lt dX0_versionAt_9 rfl rfl) ?_
  refine mb_l_cons (ms_null dX0_versionAt_12 rfl) ?_
  refine mb_l_cons (ms_goto dX0_versionAt_13 rfl) ?_
  refine mb_l_cons (ms_aload_n dX0_versionAt_16 rfl rfl) ?_
  refine mb_l_cons (ms_getf (ci := 0) (kf := 1) hX (C := RX0) (T := TX0) (N := 3) rfl (by decide) mu_X0 (Or.inl mw_176) dX0_versionAt_17 rfl) ?_
  refine mb_l_cons (ms_iload_n dX0_versionAt_20 rfl rfl) ?_
  refine mb_l_cons (ms_aald hX dX0_versionAt_21 rfl) ?_
  refine mb_l_cons (ms_aret dX0_versionAt_22 rfl (Or.inl ⟨_, rfl⟩)) ?_
  exact mb_l_nil
theorem mr_X0_looksAlike (hX : mb_Fx l D cT s0 args0) : ∀ pc i, mb_look mc_X0_looksAlike pc = some i → mb_Snd l D cT s0 mb_mt RX0 "looksAlike" cX0_looksAlike 6 (some .boolean) [] pc i := by
  unfold mc_X0_looksAlike
  refine mb_l_cons (ms_iload_n dX0_looksAlike_0 rfl rfl) ?_
  refine mb_l_cons (ms_iload_n dX0_looksAlike_1 rfl rfl) ?_
  refine mb_l_cons (ms_icmp_ne dX0_looksAlike_2 rfl rfl) ?_
  refine mb_l_cons (ms_iconst dX0_looksAlike_5 rfl rfl) ?_
  refine mb_l_cons (ms_zret dX0_looksAlike_6 rfl) ?_
  refine mb_l_cons (ms_aload_n dX0_looksAlike_7 rfl rfl) ?_
  refine mb_l_cons (ms_iload_n dX0_looksAlike_8 rfl rfl) ?_
  refine mb_l_cons (ms_callv (ci := 0) hX (y := 2) (y0 := yX0_versionAt) (bytes := cX0_versionAt) rfl (C := RX0) (T := TX0) (N := 3) rfl mq_X0_30_X0_versionAt mw_368 mw_199 mw_200 dX0_looksAlike_9 (fun _ _ _ h => nomatch h) rfl) ?_
  refine mb_l_cons (ms_astore dX0_looksAlike_12 rfl) ?_
  refine mb_l_cons (ms_aload_n dX0_looksAlike_14 rfl rfl) ?_
  refine mb_l_cons (ms_iload_n dX0_looksAlike_15 rfl rfl) ?_
  refine mb_l_cons (ms_callv (ci := 0) hX (y := 2) (y0 := yX0_versionAt) (bytes := cX0_versionAt) rfl (C := RX0) (T := TX0) (N := 3) rfl mq_X0_30_X0_versionAt mw_368 mw_199 mw_200 dX0_looksAlike_16 (fun _ _ _ h => nomatch h) rfl) ?_
  refine mb_l_cons (ms_astore dX0_looksAlike_19 rfl) ?_
  refine mb_l_cons (ms_aload dX0_looksAlike_21 rfl) ?_
  refine mb_l_cons (ms_ifnull dX0_looksAlike_23 rfl rfl) ?_
  refine mb_l_cons (ms_aload dX0_looksAlike_26 rfl) ?_
  refine mb_l_cons (ms_ifnull dX0_looksAlike_28 rfl rfl) ?_
  refine mb_l_cons (ms_aload dX0_looksAlike_31 rfl) ?_
  refine mb_l_cons (ms_aload dX0_looksAlike_33 rfl) ?_
  refine mb_l_cons (ms_iload_n dX0_looksAlike_35 rfl rfl) ?_
  refine mb_l_cons (ms_callv (ci := 5) hX (y := 29) (y0 := yX5_looksLike) (bytes := cX5_looksLike) rfl (C := RX5) (T := TX5) (N := 4) rfl mq_X0_34_X5_looksLike mw_369 mw_370 mw_371 dX0_looksAlike_36 (fun _ _ _ h => nomatch h) rfl) ?_
  refine mb_l_cons (ms_if_eq dX0_looksAlike_39 rfl rfl) ?_
  refine mb_l_cons (ms_iconst dX0_looksAlike_42 rfl rfl) ?_
  refine mb_l_cons (ms_goto dX0_looksAlike_43 rfl) ?_
  refine mb_l_cons (ms_iconst dX0_looksAlike_46 rfl rfl) ?_
  refine mb_l_cons (ms_zret dX0_looksAlike_47 rfl) ?_
  exact mb_l_nil
theorem mr_X1_init (hX : mb_Fx l D cT s0 args0) : ∀ pc i, mb_look mc_X1_init pc = some i → mb_Snd l D cT s0 mb_mt RX1 "<init>" cX1_init 1 none [] pc i := by
  unfold mc_X1_init
  refine mb_l_cons (ms_aload_n dX1_init_0 rfl rfl) ?_
  refine mb_l_cons (ms_oinit hX dX1_init_1 rfl mw_570 mw_43 mw_objcode) ?_
  refine mb_l_cons (ms_vret dX1_init_4 rfl) ?_
  exact mb_l_nil
theorem mr_X1_covers (hX : mb_Fx l D cT s0 args0) : ∀ pc i, mb_look mc_X1_covers pc = some i → mb_Snd l D cT s0 mb_mt RX1 "covers" cX1_covers 2 (some .boolean) [] pc i := by
  unfold mc_X1_covers
  refine mb_l_cons (ms_iload_n dX1_covers_0 rfl rfl) ?_
  refine mb_l_cons (ms_aload_n dX1_covers_1 rfl rfl) ?_
  refine mb_l_cons (ms_getf (ci := 1) (kf := 1) hX (C := RX1) (T := TX1) (N := 3) rfl (by decide) mu_X1 (Or.inl mw_573) dX1_covers_2 rfl) ?_
  refine mb_l_cons (ms_icmp_lt dX1_covers_5 rfl rfl) ?_
  refine mb_l_cons (ms_iload_n dX1_covers_8 rfl rfl) ?_
  refine mb_l_cons (ms_aload_n dX1_covers_9 rfl rfl) ?_
  refine mb_l_cons (ms_getf (ci := 1) (kf := 2) hX (C := RX1) (T := TX1) (N := 3) rfl (by decide) mu_X1 (Or.inl mw_575) dX1_covers_10 rfl) ?_
  refine mb_l_cons (ms_icmp_gt dX1_covers_13 rfl rfl) ?_
  refine mb_l_cons (ms_iconst dX1_covers_16 rfl rfl) ?_
  refine mb_l_cons (ms_goto dX1_covers_17 rfl) ?_
  refine mb_l_cons (ms_iconst dX1_covers_20 rfl rfl) ?_
  refine mb_l_cons (ms_zret dX1_covers_21 rfl) ?_
  exact mb_l_nil
theorem mr_X2_init (hX : mb_Fx l D cT s0 args0) : ∀ pc i, mb_look mc_X2_init pc = some i → mb_Snd l D cT s0 mb_mt RX2 "<init>" cX2_init 1 none [] pc i := by
  unfold mc_X2_init
  refine mb_l_cons (ms_aload_n dX2_init_0 rfl rfl) ?_
  refine mb_l_cons (ms_oinit hX dX2_init_1 rfl mw_473 mw_43 mw_objcode) ?_
  refine mb_l_cons (ms_aload_n dX2_init_4 rfl rfl) ?_
  refine mb_l_cons (ms_bipush dX2_init_5 rfl rfl) ?_
  refine mb_l_cons (ms_newi hX mw_172 dX2_init_7 rfl) ?_
  refine mb_l_cons (ms_putF (ci := 2) (kf := 0) (z := 2) hX (C := RX2) (T := TX2) (N := 4) rfl (by decide) mu_X2 tyX2 tyX2_ok nmX2 (Or.inr (Or.inr ⟨rfl, Or.inr ⟨_, rfl⟩⟩)) rfl rfl rfl mw_474 dX2_init_9 rfl) ?_
  refine mb_l_cons (ms_aload_n dX2_init_12 rfl rfl) ?_
  refine mb_l_cons (ms_bipush dX2_init_13 rfl rfl) ?_
  refine mb_l_cons (ms_newi hX mw_172 dX2_init_15 rfl) ?_
  refine mb_l_cons (ms_putF (ci := 2) (kf := 1) (z := 2) hX (C := RX2) (T := TX2) (N := 4) rfl (by decide) mu_X2 tyX2 tyX2_ok nmX2 (Or.inr (Or.inr ⟨rfl, Or.inr ⟨_, rfl⟩⟩)) rfl rfl rfl mw_475 dX2_init_17 rfl) ?_
  refine mb_l_cons (ms_aload_n dX2_init_20 rfl rfl) ?_
  refine mb_l_cons (ms_bipush dX2_init_21 rfl rfl) ?_
  refine mb_l_cons (ms_newi hX mw_172 dX2_init_23 rfl) ?_
  refine mb_l_cons (ms_putF (ci := 2) (kf := 2) (z := 2) hX (C := RX2) (T := TX2) (N := 4) rfl (by decide) mu_X2 tyX2 tyX2_ok nmX2 (Or.inr (Or.inr ⟨rfl, Or.inr ⟨_, rfl⟩⟩)) rfl rfl rfl mw_476 dX2_init_25 rfl) ?_
  refine mb_l_cons (ms_vret dX2_init_28 rfl) ?_
  exact mb_l_nil
theorem mr_X2_keysAhead (hX : mb_Fx l D cT s0 args0) : ∀ pc i, mb_look mc_X2_keysAhead pc = some i → mb_Snd l D cT s0 mb_mt RX2 "keysAhead" cX2_keysAhead 3 (some .int) [] pc i := by
  unfold mc_X2_keysAhead
  refine mb_l_cons (ms_iconst dX2_keysAhead_0 rfl rfl) ?_
  refine mb_l_cons (ms_istore_n dX2_keysAhead_1 rfl rfl) ?_
  refine mb_l_cons (ms_iload_n dX2_keysAhead_2 rfl rfl) ?_
  refine mb_l_cons (ms_aload_n dX2_keysAhead_3 rfl rfl) ?_
  refine mb_l_cons (ms_getf (ci := 2) (kf := 3) hX (C := RX2) (T := TX2) (N := 4) rfl (by decide) mu_X2 (Or.inl mw_477) dX2_keysAhead_4 rfl) ?_
  refine mb_l_cons (ms_icmp_ge dX2_keysAhead_7 rfl rfl) ?_
  refine mb_l_cons (ms_aload_n dX2_keysAhead_10 rfl rfl) ?_
  refine mb_l_cons (ms_getf (ci := 2) (kf := 0) hX (C := RX2) (T := TX2) (N := 4) rfl (by decide) mu_X2 (Or.inl mw_474) dX2_keysAhead_11 rfl) ?_
  refine mb_l_cons (ms_iload_n dX2_keysAhead_14 rfl rfl) ?_
  refine mb_l_cons (ms_iald hX dX2_keysAhead_15 rfl) ?_
  refine mb_l_cons (ms_iload_n dX2_keysAhead_16 rfl rfl) ?_
  refine mb_l_cons (ms_icmp_ge dX2_keysAhead_17 rfl rfl) ?_
  refine mb_l_cons (ms_iinc dX2_keysAhead_20 rfl rfl) ?_
  refine mb_l_cons (ms_goto dX2_keysAhead_23 rfl) ?_
  refine mb_l_cons (ms_iload_n dX2_keysAhead_26 rfl rfl) ?_
  refine mb_l_cons (ms_iret dX2_keysAhead_27 rfl) ?_
  exact mb_l_nil
theorem mr_X2_standsAt (hX : mb_Fx l D cT s0 args0) : ∀ pc i, mb_look mc_X2_standsAt pc = some i → mb_Snd l D cT s0 mb_mt RX2 "standsAt" cX2_standsAt 3 (some .boolean) [] pc i := by
  unfold mc_X2_standsAt
  refine mb_l_cons (ms_iload_n dX2_standsAt_0 rfl rfl) ?_
  refine mb_l_cons (ms_aload_n dX2_standsAt_1 rfl rfl) ?_
  refine mb_l_cons (ms_getf (ci := 2) (kf := 3) hX (C := RX2) (T := TX2) (N := 4) rfl (by decide) mu_X2 (Or.inl mw_477) dX2_standsAt_2 rfl) ?_
  refine mb_l_cons (ms_icmp_ge dX2_standsAt_5 rfl rfl) ?_
  refine mb_l_cons (ms_aload_n dX2_standsAt_8 rfl rfl) ?_
  refine mb_l_cons (ms_getf (ci := 2) (kf := 0) hX (C := RX2) (T := TX2) (N := 4) rfl (by decide) mu_X2 (Or.inl mw_474) dX2_standsAt_9 rfl) ?_
  refine mb_l_cons (ms_iload_n dX2_standsAt_12 rfl rfl) ?_
  refine mb_l_cons (ms_iald hX dX2_standsAt_13 rfl) ?_
  refine mb_l_cons (ms_iload_n dX2_standsAt_14 rfl rfl) ?_
  refine mb_l_cons (ms_icmp_ne dX2_standsAt_15 rfl rfl) ?_
  refine mb_l_cons (ms_iconst dX2_standsAt_18 rfl rfl) ?_
  refine mb_l_cons (ms_goto dX2_standsAt_19 rfl) ?_
  refine mb_l_cons (ms_iconst dX2_standsAt_22 rfl rfl) ?_
  refine mb_l_cons (ms_zret dX2_standsAt_23 rfl) ?_
  exact mb_l_nil
theorem mr_X2_hasRoomFor (hX : mb_Fx l D cT s0 args0) : ∀ pc i, mb_look mc_X2_hasRoomFor pc = some i → mb_Snd l D cT s0 mb_mt RX2 "hasRoomFor" cX2_hasRoomFor 2 (some .boolean) [] pc i := by
  unfold mc_X2_hasRoomFor
  refine mb_l_cons (ms_aload_n dX2_hasRoomFor_0 rfl rfl) ?_
  refine mb_l_cons (ms_getf (ci := 2) (kf := 3) hX (C := RX2) (T := TX2) (N := 4) rfl (by decide) mu_X2 (Or.inl mw_477) dX2_hasRoomFor_1 rfl) ?_
  refine mb_l_cons (ms_bipush dX2_hasRoomFor_4 rfl rfl) ?_
  refine mb_l_cons (ms_icmp_lt dX2_hasRoomFor_6 rfl rfl) ?_
  refine mb_l_cons (ms_aload_n dX2_hasRoomFor_9 rfl rfl) ?_
  refine mb_l_cons (ms_aload_n dX2_hasRoomFor_10 rfl rfl) ?_
  refine mb_l_cons (ms_iload_n dX2_hasRoomFor_11 rfl rfl) ?_
  refine mb_l_cons (ms_callv (ci := 2) hX (y := 7) (y0 := yX2_keysAhead) (bytes := cX2_keysAhead) rfl (C := RX2) (T := TX2) (N := 4) rfl mq_X2_25_X2_keysAhead mw_265 mw_266 mw_267 dX2_hasRoomFor_12 (fun _ _ _ h => nomatch h) rfl) ?_
  refine mb_l_cons (ms_iload_n dX2_hasRoomFor_15 rfl rfl) ?_
  refine mb_l_cons (ms_callv (ci := 2) hX (y := 8) (y0 := yX2_standsAt) (bytes := cX2_standsAt) rfl (C := RX2) (T := TX2) (N := 4) rfl mq_X2_29_X2_standsAt mw_507 mw_508 mw_509 dX2_hasRoomFor_16 (fun _ _ _ h => nomatch h) rfl) ?_
  refine mb_l_cons (ms_if_eq dX2_hasRoomFor_19 rfl rfl) ?_
  refine mb_l_cons (ms_iconst dX2_hasRoomFor_22 rfl rfl) ?_
  refine mb_l_cons (ms_goto dX2_hasRoomFor_23 rfl) ?_
  refine mb_l_cons (ms_iconst dX2_hasRoomFor_26 rfl rfl) ?_
  refine mb_l_cons (ms_zret dX2_hasRoomFor_27 rfl) ?_
  exact mb_l_nil
theorem mr_X2_put (hX : mb_Fx l D cT s0 args0) : ∀ pc i, mb_look mc_X2_put pc = some i → mb_Snd l D cT s0 mb_mt RX2 "put" cX2_put 6 none [] pc i := by
  unfold mc_X2_put
  refine mb_l_cons (ms_aload_n dX2_put_0 rfl rfl) ?_
  refine mb_l_cons (ms_iload_n dX2_put_1 rfl rfl) ?_
  refine mb_l_cons (ms_callv (ci := 2) hX (y := 9) (y0 := yX2_hasRoomFor) (bytes := cX2_hasRoomFor) rfl (C := RX2) (T := TX2) (N := 4) rfl mq_X2_33_X2_hasRoomFor mw_516 mw_504 mw_505 dX2_put_2 (fun _ _ _ h => nomatch h) rfl) ?_
  refine mb_l_cons (ms_if_ne dX2_put_5 rfl rfl) ?_
  refine mb_l_cons (ms_vret dX2_put_8 rfl) ?_
  refine mb_l_cons (ms_aload_n dX2_put_9 rfl rfl) ?_
  refine mb_l_cons (ms_iload_n dX2_put_10 rfl rfl) ?_
  refine mb_l_cons (ms_callv (ci := 2) hX (y := 7) (y0 := yX2_keysAhead) (bytes := cX2_keysAhead) rfl (C := RX2) (T := TX2) (N := 4) rfl mq_X2_25_X2_keysAhead mw_265 mw_266 mw_267 dX2_put_11 (fun _ _ _ h => nomatch h) rfl) ?_
  refine mb_l_cons (ms_istore dX2_put_14 rfl) ?_
  refine mb_l_cons (ms_aload_n dX2_put_16 rfl rfl) ?_
  refine mb_l_cons (ms_iload dX2_put_17 rfl) ?_
  refine mb_l_cons (ms_iload_n dX2_put_19 rfl rfl) ?_
  refine mb_l_cons (ms_callv (ci := 2) hX (y := 8) (y0 := yX2_standsAt) (bytes := cX2_standsAt) rfl (C := RX2) (T := TX2) (N := 4) rfl mq_X2_29_X2_standsAt mw_507 mw_508 mw_509 dX2_put_20 (fun _ _ _ h => nomatch h) rfl) ?_
  refine mb_l_cons (ms_if_ne dX2_put_23 rfl rfl) ?_
  refine mb_l_cons (ms_aload_n dX2_put_26 rfl rfl) ?_
  refine mb_l_cons (ms_getf (ci := 2) (kf := 3) hX (C := RX2) (T := TX2) (N := 4) rfl (by decide) mu_X2 (Or.inl mw_477) dX2_put_27 rfl) ?_
  refine mb_l_cons (ms_istore dX2_put_30 rfl) ?_
  refine mb_l_cons (ms_iload dX2_put_32 rfl) ?_
  refine mb_l_cons (ms_iload dX2_put_34 rfl) ?_
  refine mb_l_cons (ms_icmp_le dX2_put_36 rfl rfl) ?_
  refine mb_l_cons (ms_aload_n dX2_put_39 rfl rfl) ?_
  refine mb_l_cons (ms_iload dX2_put_40 rfl) ?_
  refine mb_l_cons (ms_iconst dX2_put_42 rfl rfl) ?_
  refine mb_l_cons (ms_isub dX2_put_43 rfl) ?_
  refine mb_l_cons (ms_iload dX2_put_44 rfl) ?_
  refine mb_l_cons (ms_callv (ci := 2) hX (y := 12) (y0 := yX2_moveKey) (bytes := cX2_moveKey) rfl (C := RX2) (T := TX2) (N := 4) rfl mq_X2_37_X2_moveKey mw_517 mw_518 mw_519 dX2_put_46 (fun _ _ _ h => nomatch h) rfl) ?_
  refine mb_l_cons (ms_iinc dX2_put_49 rfl rfl) ?_
  refine mb_l_cons (ms_goto dX2_put_52 rfl) ?_
  refine mb_l_cons (ms_aload_n dX2_put_55 rfl rfl) ?_
  refine mb_l_cons (ms_dup dX2_put_56 rfl) ?_
  refine mb_l_cons (ms_getf (ci := 2) (kf := 3) hX (C := RX2) (T := TX2) (N := 4) rfl (by decide) mu_X2 (Or.inl mw_477) dX2_put_57 rfl) ?_
  refine mb_l_cons (ms_iconst dX2_put_60 rfl rfl) ?_
  refine mb_l_cons (ms_iadd dX2_put_61 rfl) ?_
  refine mb_l_cons (ms_putf (ci := 2) (kf := 3) (z := 0) hX (C := RX2) (T := TX2) (N := 4) rfl (by decide) mu_X2 tyX2 tyX2_ok nmX2 (Or.inl ⟨rfl, rfl⟩) rfl (Or.inl mw_477) dX2_put_62 rfl) ?_
  refine mb_l_cons (ms_aload_n dX2_put_65 rfl rfl) ?_
  refine mb_l_cons (ms_getf (ci := 2) (kf := 0) hX (C := RX2) (T := TX2) (N := 4) rfl (by decide) mu_X2 (Or.inl mw_474) dX2_put_66 rfl) ?_
  refine mb_l_cons (ms_iload dX2_put_69 rfl) ?_
  refine mb_l_cons (ms_iload_n dX2_put_71 rfl rfl) ?_
  refine mb_l_cons (ms_iast hX dX2_put_72 rfl) ?_
  refine mb_l_cons (ms_aload_n dX2_put_73 rfl rfl) ?_
  refine mb_l_cons (ms_getf (ci := 2) (kf := 1) hX (C := RX2) (T := TX2) (N := 4) rfl (by decide) mu_X2 (Or.inl mw_475) dX2_put_74 rfl) ?_
  refine mb_l_cons (ms_iload dX2_put_77 rfl) ?_
  refine mb_l_cons (ms_iload_n dX2_put_79 rfl rfl) ?_
  refine mb_l_cons (ms_iast hX dX2_put_80 rfl) ?_
  refine mb_l_cons (ms_aload_n dX2_put_81 rfl rfl) ?_
  refine mb_l_cons (ms_getf (ci := 2) (kf := 2) hX (C := RX2) (T := TX2) (N := 4) rfl (by decide) mu_X2 (Or.inl mw_476) dX2_put_82 rfl) ?_
  refine mb_l_cons (ms_iload dX2_put_85 rfl) ?_
  refine mb_l_cons (ms_iload_n dX2_put_87 rfl rfl) ?_
  refine mb_l_cons (ms_iast hX dX2_put_88 rfl) ?_
  refine mb_l_cons (ms_vret dX2_put_89 rfl) ?_
  exact mb_l_nil
theorem mr_X2_take (hX : mb_Fx l D cT s0 args0) : ∀ pc i, mb_look mc_X2_take pc = some i → mb_Snd l D cT s0 mb_mt RX2 "take" cX2_take 4 (some .boolean) [] pc i := by
  unfold mc_X2_take
  refine mb_l_cons (ms_aload_n dX2_take_0 rfl rfl) ?_
  refine mb_l_cons (ms_iload_n dX2_take_1 rfl rfl) ?_
  refine mb_l_cons (ms_callv (ci := 2) hX (y := 7) (y0 := yX2_keysAhead) (bytes := cX2_keysAhead) rfl (C := RX2) (T := TX2) (N := 4) rfl mq_X2_25_X2_keysAhead mw_265 mw_266 mw_267 dX2_take_2 (fun _ _ _ h => nomatch h) rfl) ?_
  refine mb_l_cons (ms_istore_n dX2_take_5 rfl rfl) ?_
  refine mb_l_cons (ms_aload_n dX2_take_6 rfl rfl) ?_
  refine mb_l_cons (ms_iload_n dX2_take_7 rfl rfl) ?_
  refine mb_l_cons (ms_iload_n dX2_take_8 rfl rfl) ?_
  refine mb_l_cons (ms_callv (ci := 2) hX (y := 8) (y0 := yX2_standsAt) (bytes := cX2_standsAt) rfl (C := RX2) (T := TX2) (N := 4) rfl mq_X2_29_X2_standsAt mw_507 mw_508 mw_509 dX2_take_9 (fun _ _ _ h => nomatch h) rfl) ?_
  refine mb_l_cons (ms_if_ne dX2_take_12 rfl rfl) ?_
  refine mb_l_cons (ms_iconst dX2_take_15 rfl rfl) ?_
  refine mb_l_cons (ms_zret dX2_take_16 rfl) ?_
  refine mb_l_cons (ms_aload_n dX2_take_17 rfl rfl) ?_
  refine mb_l_cons (ms_dup dX2_take_18 rfl) ?_
  refine mb_l_cons (ms_getf (ci := 2) (kf := 3) hX (C := RX2) (T := TX2) (N := 4) rfl (by decide) mu_X2 (Or.inl mw_477) dX2_take_19 rfl) ?_
  refine mb_l_cons (ms_iconst dX2_take_22 rfl rfl) ?_
  refine mb_l_cons (ms_isub dX2_take_23 rfl) ?_
  refine mb_l_cons (ms_putf (ci := 2) (kf := 3) (z := 0) hX (C := RX2) (T := TX2) (N := 4) rfl (by decide) mu_X2 tyX2 tyX2_ok nmX2 (Or.inl ⟨rfl, rfl⟩) rfl (Or.inl mw_477) dX2_take_24 rfl) ?_
  refine mb_l_cons (ms_iload_n dX2_take_27 rfl rfl) ?_
  refine mb_l_cons (ms_istore_n dX2_take_28 rfl rfl) ?_
  refine mb_l_cons (ms_iload_n dX2_take_29 rfl rfl) ?_
  refine mb_l_cons (ms_aload_n dX2_take_30 rfl rfl) ?_
  refine mb_l_cons (ms_getf (ci := 2) (kf := 3) hX (C := RX2) (T := TX2) (N := 4) rfl (by decide) mu_X2 (Or.inl mw_477) dX2_take_31 rfl) ?_
  refine mb_l_cons (ms_icmp_ge dX2_take_34 rfl rfl) ?_
  refine mb_l_cons (ms_aload_n dX2_take_37 rfl rfl) ?_
  refine mb_l_cons (ms_iload_n dX2_take_38 rfl rfl) ?_
  refine mb_l_cons (ms_iconst dX2_take_39 rfl rfl) ?_
  refine mb_l_cons (ms_iadd dX2_take_40 rfl) ?_
  refine mb_l_cons (ms_iload_n dX2_take_41 rfl rfl) ?_
  refine mb_l_cons (ms_callv (ci := 2) hX (y := 12) (y0 := yX2_moveKey) (bytes := cX2_moveKey) rfl (C := RX2) (T := TX2) (N := 4) rfl mq_X2_37_X2_moveKey mw_517 mw_518 mw_519 dX2_take_42 (fun _ _ _ h => nomatch h) rfl) ?_
  refine mb_l_cons (ms_iinc dX2_take_45 rfl rfl) ?_
  refine mb_l_cons (ms_goto dX2_take_48 rfl) ?_
  refine mb_l_cons (ms_iconst dX2_take_51 rfl rfl) ?_
  refine mb_l_cons (ms_zret dX2_take_52 rfl) ?_
  exact mb_l_nil
theorem mr_X2_moveKey (hX : mb_Fx l D cT s0 args0) : ∀ pc i, mb_look mc_X2_moveKey pc = some i → mb_Snd l D cT s0 mb_mt RX2 "moveKey" cX2_moveKey 3 none [] pc i := by
  unfold mc_X2_moveKey
  refine mb_l_cons (ms_aload_n dX2_moveKey_0 rfl rfl) ?_
  refine mb_l_cons (ms_getf (ci := 2) (kf := 0) hX (C := RX2) (T := TX2) (N := 4) rfl (by decide) mu_X2 (Or.inl mw_474) dX2_moveKey_1 rfl) ?_
  refine mb_l_cons (ms_iload_n dX2_moveKey_4 rfl rfl) ?_
  refine mb_l_cons (ms_aload_n dX2_moveKey_5 rfl rfl) ?_
  refine mb_l_cons (ms_getf (ci := 2) (kf := 0) hX (C := RX2) (T := TX2) (N := 4) rfl (by decide) mu_X2 (Or.inl mw_474) dX2_moveKey_6 rfl) ?_
  refine mb_l_cons (ms_iload_n dX2_moveKey_9 rfl rfl) ?_
  refine mb_l_cons (ms_iald hX dX2_moveKey_10 rfl) ?_
  refine mb_l_cons (ms_iast hX dX2_moveKey_11 rfl) ?_
  refine mb_l_cons (ms_aload_n dX2_moveKey_12 rfl rfl) ?_
  refine mb_l_cons (ms_getf (ci := 2) (kf := 1) hX (C := RX2) (T := TX2) (N := 4) rfl (by decide) mu_X2 (Or.inl mw_475) dX2_moveKey_13 rfl) ?_
  refine mb_l_cons (ms_iload_n dX2_moveKey_16 rfl rfl) ?_
  refine mb_l_cons (ms_aload_n dX2_moveKey_17 rfl rfl) ?_
  refine mb_l_cons (ms_getf (ci := 2) (kf := 1) hX (C := RX2) (T := TX2) (N := 4) rfl (by decide) mu_X2 (Or.inl mw_475) dX2_moveKey_18 rfl) ?_
  refine mb_l_cons (ms_iload_n dX2_moveKey_21 rfl rfl) ?_
  refine mb_l_cons (ms_iald hX dX2_moveKey_22 rfl) ?_
  refine mb_l_cons (ms_iast hX dX2_moveKey_23 rfl) ?_
  refine mb_l_cons (ms_aload_n dX2_moveKey_24 rfl rfl) ?_
  refine mb_l_cons (ms_getf (ci := 2) (kf := 2) hX (C := RX2) (T := TX2) (N := 4) rfl (by decide) mu_X2 (Or.inl mw_476) dX2_moveKey_25 rfl) ?_
  refine mb_l_cons (ms_iload_n dX2_moveKey_28 rfl rfl) ?_
  refine mb_l_cons (ms_aload_n dX2_moveKey_29 rfl rfl) ?_
  refine mb_l_cons (ms_getf (ci := 2) (kf := 2) hX (C := RX2) (T := TX2) (N := 4) rfl (by decide) mu_X2 (Or.inl mw_476) dX2_moveKey_30 rfl) ?_
  refine mb_l_cons (ms_iload_n dX2_moveKey_33 rfl rfl) ?_
  refine mb_l_cons (ms_iald hX dX2_moveKey_34 rfl) ?_
  refine mb_l_cons (ms_iast hX dX2_moveKey_35 rfl) ?_
  refine mb_l_cons (ms_vret dX2_moveKey_36 rfl) ?_
  exact mb_l_nil
theorem mr_X2_valueAt (hX : mb_Fx l D cT s0 args0) : ∀ pc i, mb_look mc_X2_valueAt pc = some i → mb_Snd l D cT s0 mb_mt RX2 "valueAt" cX2_valueAt 3 (some .int) [] pc i := by
  unfold mc_X2_valueAt
  refine mb_l_cons (ms_aload_n dX2_valueAt_0 rfl rfl) ?_
  refine mb_l_cons (ms_getf (ci := 2) (kf := 3) hX (C := RX2) (T := TX2) (N := 4) rfl (by decide) mu_X2 (Or.inl mw_477) dX2_valueAt_1 rfl) ?_
  refine mb_l_cons (ms_if_ne dX2_valueAt_4 rfl rfl) ?_
  refine mb_l_cons (ms_iconst dX2_valueAt_7 rfl rfl) ?_
  refine mb_l_cons (ms_iret dX2_valueAt_8 rfl) ?_
  refine mb_l_cons (ms_aload_n dX2_valueAt_9 rfl rfl) ?_
  refine mb_l_cons (ms_iload_n dX2_valueAt_10 rfl rfl) ?_
  refine mb_l_cons (ms_iconst dX2_valueAt_11 rfl rfl) ?_
  refine mb_l_cons (ms_iadd dX2_valueAt_12 rfl) ?_
  refine mb_l_cons (ms_callv (ci := 2) hX (y := 7) (y0 := yX2_keysAhead) (bytes := cX2_keysAhead) rfl (C := RX2) (T := TX2) (N := 4) rfl mq_X2_25_X2_keysAhead mw_265 mw_266 mw_267 dX2_valueAt_13 (fun _ _ _ h => nomatch h) rfl) ?_
  refine mb_l_cons (ms_istore_n dX2_valueAt_16 rfl rfl) ?_
  refine mb_l_cons (ms_iload_n dX2_valueAt_17 rfl rfl) ?_
  refine mb_l_cons (ms_if_ne dX2_valueAt_18 rfl rfl) ?_
  refine mb_l_cons (ms_aload_n dX2_valueAt_21 rfl rfl) ?_
  refine mb_l_cons (ms_getf (ci := 2) (kf := 1) hX (C := RX2) (T := TX2) (N := 4) rfl (by decide) mu_X2 (Or.inl mw_475) dX2_valueAt_22 rfl) ?_
  refine mb_l_cons (ms_iconst dX2_valueAt_25 rfl rfl) ?_
  refine mb_l_cons (ms_iald hX dX2_valueAt_26 rfl) ?_
  refine mb_l_cons (ms_iret dX2_valueAt_27 rfl) ?_
  refine mb_l_cons (ms_iload_n dX2_valueAt_28 rfl rfl) ?_
  refine mb_l_cons (ms_aload_n dX2_valueAt_29 rfl rfl) ?_
  refine mb_l_cons (ms_getf (ci := 2) (kf := 3) hX (C := RX2) (T := TX2) (N := 4) rfl (by decide) mu_X2 (Or.inl mw_477) dX2_valueAt_30 rfl) ?_
  refine mb_l_cons (ms_icmp_lt dX2_valueAt_33 rfl rfl) ?_
  refine mb_l_cons (ms_aload_n dX2_valueAt_36 rfl rfl) ?_
  refine mb_l_cons (ms_getf (ci := 2) (kf := 1) hX (C := RX2) (T := TX2) (N := 4) rfl (by decide) mu_X2 (Or.inl mw_475) dX2_valueAt_37 rfl) ?_
  refine mb_l_cons (ms_aload_n dX2_valueAt_40 rfl rfl) ?_
  refine mb_l_cons (ms_getf (ci := 2) (kf := 3) hX (C := RX2) (T := TX2) (N := 4) rfl (by decide) mu_X2 (Or.inl mw_477) dX2_valueAt_41 rfl) ?_
  refine mb_l_cons (ms_iconst dX2_valueAt_44 rfl rfl) ?_
  refine mb_l_cons (ms_isub dX2_valueAt_45 rfl) ?_
  refine mb_l_cons (ms_iald hX dX2_valueAt_46 rfl) ?_
  refine mb_l_cons (ms_iret dX2_valueAt_47 rfl) ?_
  refine mb_l_cons (ms_aload_n dX2_valueAt_48 rfl rfl) ?_
  refine mb_l_cons (ms_iload_n dX2_valueAt_49 rfl rfl) ?_
  refine mb_l_cons (ms_iload_n dX2_valueAt_50 rfl rfl) ?_
  refine mb_l_cons (ms_callv (ci := 2) hX (y := 14) (y0 := yX2_valueAhead) (bytes := cX2_valueAhead) rfl (C := RX2) (T := TX2) (N := 4) rfl mq_X2_41_X2_valueAhead mw_269 mw_270 mw_271 dX2_valueAt_51 (fun _ _ _ h => nomatch h) rfl) ?_
  refine mb_l_cons (ms_iret dX2_valueAt_54 rfl) ?_
  exact mb_l_nil
theorem mr_X2_valueAhead (hX : mb_Fx l D cT s0 args0) : ∀ pc i, mb_look mc_X2_valueAhead pc = some i → mb_Snd l D cT s0 mb_mt RX2 "valueAhead" cX2_valueAhead 8 (some .int) [] pc i := by
  unfold mc_X2_valueAhead
  refine mb_l_cons (ms_iload_n dX2_valueAhead_0 rfl rfl) ?_
  refine mb_l_cons (ms_iconst dX2_valueAhead_1 rfl rfl) ?_
  refine mb_l_cons (ms_isub dX2_valueAhead_2 rfl) ?_
  refine mb_l_cons (ms_istore_n dX2_valueAhead_3 rfl rfl) ?_
  refine mb_l_cons (ms_aload_n dX2_valueAhead_4 rfl rfl) ?_
  refine mb_l_cons (ms_getf (ci := 2) (kf := 1) hX (C := RX2) (T := TX2) (N := 4) rfl (by decide) mu_X2 (Or.inl mw_475) dX2_valueAhead_5 rfl) ?_
  refine mb_l_cons (ms_iload_n dX2_valueAhead_8 rfl rfl) ?_
  refine mb_l_cons (ms_iald hX dX2_valueAhead_9 rfl) ?_
  refine mb_l_cons (ms_istore dX2_valueAhead_10 rfl) ?_
  refine mb_l_cons (ms_aload_n dX2_valueAhead_12 rfl rfl) ?_
  refine mb_l_cons (ms_getf (ci := 2) (kf := 0) hX (C := RX2) (T := TX2) (N := 4) rfl (by decide) mu_X2 (Or.inl mw_474) dX2_valueAhead_13 rfl) ?_
  refine mb_l_cons (ms_iload_n dX2_valueAhead_16 rfl rfl) ?_
  refine mb_l_cons (ms_iald hX dX2_valueAhead_17 rfl) ?_
  refine mb_l_cons (ms_aload_n dX2_valueAhead_18 rfl rfl) ?_
  refine mb_l_cons (ms_getf (ci := 2) (kf := 0) hX (C := RX2) (T := TX2) (N := 4) rfl (by decide) mu_X2 (Or.inl mw_474) dX2_valueAhead_19 rfl) ?_
  refine mb_l_cons (ms_iload_n dX2_valueAhead_22 rfl rfl) ?_
  refine mb_l_cons (ms_iald hX dX2_valueAhead_23 rfl) ?_
  refine mb_l_cons (ms_isub dX2_valueAhead_24 rfl) ?_
  refine mb_l_cons (ms_istore dX2_valueAhead_25 rfl) ?_
  refine mb_l_cons (ms_aload_n dX2_valueAhead_27 rfl rfl) ?_
  refine mb_l_cons (ms_getf (ci := 2) (kf := 2) hX (C := RX2) (T := TX2) (N := 4) rfl (by decide) mu_X2 (Or.inl mw_476) dX2_valueAhead_28 rfl) ?_
  refine mb_l_cons (ms_iload_n dX2_valueAhead_31 rfl rfl) ?_
  refine mb_l_cons (ms_iald hX dX2_valueAhead_32 rfl) ?_
  refine mb_l_cons (ms_if_eq dX2_valueAhead_33 rfl rfl) ?_
  refine mb_l_cons (ms_iload dX2_valueAhead_36 rfl) ?_
  refine mb_l_cons (ms_if_gt dX2_valueAhead_38 rfl rfl) ?_
  refine mb_l_cons (ms_iload dX2_valueAhead_41 rfl) ?_
  refine mb_l_cons (ms_iret dX2_valueAhead_43 rfl) ?_
  refine mb_l_cons (ms_aload_n dX2_valueAhead_44 rfl rfl) ?_
  refine mb_l_cons (ms_getf (ci := 2) (kf := 1) hX (C := RX2) (T := TX2) (N := 4) rfl (by decide) mu_X2 (Or.inl mw_475) dX2_valueAhead_45 rfl) ?_
  refine mb_l_cons (ms_iload_n dX2_valueAhead_48 rfl rfl) ?_
  refine mb_l_cons (ms_iald hX dX2_valueAhead_49 rfl) ?_
  refine mb_l_cons (ms_iload dX2_valueAhead_50 rfl) ?_
  refine mb_l_cons (ms_isub dX2_valueAhead_52 rfl) ?_
  refine mb_l_cons (ms_istore dX2_valueAhead_53 rfl) ?_
  refine mb_l_cons (ms_iload_n dX2_valueAhead_55 rfl rfl) ?_
  refine mb_l_cons (ms_aload_n dX2_valueAhead_56 rfl rfl) ?_
  refine mb_l_cons (ms_getf (ci := 2) (kf := 0) hX (C := RX2) (T := TX2) (N := 4) rfl (by decide) mu_X2 (Or.inl mw_474) dX2_valueAhead_57 rfl) ?_
  refine mb_l_cons (ms_iload_n dX2_valueAhead_60 rfl rfl) ?_
  refine mb_l_cons (ms_iald hX dX2_valueAhead_61 rfl) ?_
  refine mb_l_cons (ms_isub dX2_valueAhead_62 rfl) ?_
  refine mb_l_cons (ms_istore dX2_valueAhead_63 rfl) ?_
  refine mb_l_cons (ms_aload_n dX2_valueAhead_65 rfl rfl) ?_
  refine mb_l_cons (ms_getf (ci := 2) (kf := 2) hX (C := RX2) (T := TX2) (N := 4) rfl (by decide) mu_X2 (Or.inl mw_476) dX2_valueAhead_66 rfl) ?_
  refine mb_l_cons (ms_iload_n dX2_valueAhead_69 rfl rfl) ?_
  refine mb_l_cons (ms_iald hX dX2_valueAhead_70 rfl) ?_
  refine mb_l_cons (ms_iconst dX2_valueAhead_71 rfl rfl) ?_
  refine mb_l_cons (ms_icmp_ne dX2_valueAhead_72 rfl rfl) ?_
  refine mb_l_cons (ms_iload dX2_valueAhead_75 rfl) ?_
  refine mb_l_cons (ms_iload dX2_valueAhead_77 rfl) ?_
  refine mb_l_cons (ms_iload dX2_valueAhead_79 rfl) ?_
  refine mb_l_cons (ms_imul dX2_valueAhead_81 rfl) ?_
  refine mb_l_cons (ms_iload dX2_valueAhead_82 rfl) ?_
  refine mb_l_cons (ms_calls hX (y := 84) (y0 := yJ9_floorDiv_7cf53) (bytes := cJ9_floorDiv_7cf53) rfl mq_X2_45_J9_floorDiv_7cf53 mw_273 mw_274 dX2_valueAhead_84 rfl) ?_
  refine mb_l_cons (ms_iadd dX2_valueAhead_87 rfl) ?_
  refine mb_l_cons (ms_iret dX2_valueAhead_88 rfl) ?_
  refine mb_l_cons (ms_iload dX2_valueAhead_89 rfl) ?_
  refine mb_l_cons (ms_iload dX2_valueAhead_91 rfl) ?_
  refine mb_l_cons (ms_iload dX2_valueAhead_93 rfl) ?_
  refine mb_l_cons (ms_imul dX2_valueAhead_95 rfl) ?_
  refine mb_l_cons (ms_iload dX2_valueAhead_96 rfl) ?_
  refine mb_l_cons (ms_imul dX2_valueAhead_98 rfl) ?_
  refine mb_l_cons (ms_iload dX2_valueAhead_99 rfl) ?_
  refine mb_l_cons (ms_iload dX2_valueAhead_101 rfl) ?_
  refine mb_l_cons (ms_imul dX2_valueAhead_103 rfl) ?_
  refine mb_l_cons (ms_calls hX (y := 84) (y0 := yJ9_floorDiv_7cf53) (bytes := cJ9_floorDiv_7cf53) rfl mq_X2_45_J9_floorDiv_7cf53 mw_273 mw_274 dX2_valueAhead_104 rfl) ?_
  refine mb_l_cons (ms_iadd dX2_valueAhead_107 rfl) ?_
  refine mb_l_cons (ms_iret dX2_valueAhead_108 rfl) ?_
  exact mb_l_nil
theorem mr_X2_copy (hX : mb_Fx l D cT s0 args0) : ∀ pc i, mb_look mc_X2_copy pc = some i → mb_Snd l D cT s0 mb_mt RX2 "copy" cX2_copy 3 (some (.object "PegbarBarn$Curve")) [] pc i := by
  unfold mc_X2_copy
  refine mb_l_cons (ms_new (ci := 2) hX (C := RX2) (T := TX2) (N := 4) rfl mu_X2 tyX2 tyX2_ok mf_X2 rfl mw_549 mw_469 mw_33 dX2_copy_0 rfl) ?_
  refine mb_l_cons (ms_dup dX2_copy_3 rfl) ?_
  refine mb_l_cons (ms_calli hX (y := 6) (y0 := yX2_init) (bytes := cX2_init) rfl mq_X2_50_X2_init rfl mw_550 mw_471 dX2_copy_4 rfl) ?_
  refine mb_l_cons (ms_astore_n dX2_copy_7 rfl rfl) ?_
  refine mb_l_cons (ms_iconst dX2_copy_8 rfl rfl) ?_
  refine mb_l_cons (ms_istore_n dX2_copy_9 rfl rfl) ?_
  refine mb_l_cons (ms_iload_n dX2_copy_10 rfl rfl) ?_
  refine mb_l_cons (ms_aload_n dX2_copy_11 rfl rfl) ?_
  refine mb_l_cons (ms_getf (ci := 2) (kf := 3) hX (C := RX2) (T := TX2) (N := 4) rfl (by decide) mu_X2 (Or.inl mw_477) dX2_copy_12 rfl) ?_
  refine mb_l_cons (ms_icmp_ge dX2_copy_15 rfl rfl) ?_
  refine mb_l_cons (ms_aload_n dX2_copy_18 rfl rfl) ?_
  refine mb_l_cons (ms_getf (ci := 2) (kf := 0) hX (C := RX2) (T := TX2) (N := 4) rfl (by decide) mu_X2 (Or.inl mw_474) dX2_copy_19 rfl) ?_
  refine mb_l_cons (ms_iload_n dX2_copy_22 rfl rfl) ?_
  refine mb_l_cons (ms_aload_n dX2_copy_23 rfl rfl) ?_
  refine mb_l_cons (ms_getf (ci := 2) (kf := 0) hX (C := RX2) (T := TX2) (N := 4) rfl (by decide) mu_X2 (Or.inl mw_474) dX2_copy_24 rfl) ?_
  refine mb_l_cons (ms_iload_n dX2_copy_27 rfl rfl) ?_
  refine mb_l_cons (ms_iald hX dX2_copy_28 rfl) ?_
  refine mb_l_cons (ms_iast hX dX2_copy_29 rfl) ?_
  refine mb_l_cons (ms_aload_n dX2_copy_30 rfl rfl) ?_
  refine mb_l_cons (ms_getf (ci := 2) (kf := 1) hX (C := RX2) (T := TX2) (N := 4) rfl (by decide) mu_X2 (Or.inl mw_475) dX2_copy_31 rfl) ?_
  refine mb_l_cons (ms_iload_n dX2_copy_34 rfl rfl) ?_
  refine mb_l_cons (ms_aload_n dX2_copy_35 rfl rfl) ?_
  refine mb_l_cons (ms_getf (ci := 2) (kf := 1) hX (C := RX2) (T := TX2) (N := 4) rfl (by decide) mu_X2 (Or.inl mw_475) dX2_copy_36 rfl) ?_
  refine mb_l_cons (ms_iload_n dX2_copy_39 rfl rfl) ?_
  refine mb_l_cons (ms_iald hX dX2_copy_40 rfl) ?_
  refine mb_l_cons (ms_iast hX dX2_copy_41 rfl) ?_
  refine mb_l_cons (ms_aload_n dX2_copy_42 rfl rfl) ?_
  refine mb_l_cons (ms_getf (ci := 2) (kf := 2) hX (C := RX2) (T := TX2) (N := 4) rfl (by decide) mu_X2 (Or.inl mw_476) dX2_copy_43 rfl) ?_
  refine mb_l_cons (ms_iload_n dX2_copy_46 rfl rfl) ?_
  refine mb_l_cons (ms_aload_n dX2_copy_47 rfl rfl) ?_
  refine mb_l_cons (ms_getf (ci := 2) (kf := 2) hX (C := RX2) (T := TX2) (N := 4) rfl (by decide) mu_X2 (Or.inl mw_476) dX2_copy_48 rfl) ?_
  refine mb_l_cons (ms_iload_n dX2_copy_51 rfl rfl) ?_
  refine mb_l_cons (ms_iald hX dX2_copy_52 rfl) ?_
  refine mb_l_cons (ms_iast hX dX2_copy_53 rfl) ?_
  refine mb_l_cons (ms_iinc dX2_copy_54 rfl rfl) ?_
  refine mb_l_cons (ms_goto dX2_copy_57 rfl) ?_
  refine mb_l_cons (ms_aload_n dX2_copy_60 rfl rfl) ?_
  refine mb_l_cons (ms_aload_n dX2_copy_61 rfl rfl) ?_
  refine mb_l_cons (ms_getf (ci := 2) (kf := 3) hX (C := RX2) (T := TX2) (N := 4) rfl (by decide) mu_X2 (Or.inl mw_477) dX2_copy_62 rfl) ?_
  refine mb_l_cons (ms_putf (ci := 2) (kf := 3) (z := 0) hX (C := RX2) (T := TX2) (N := 4) rfl (by decide) mu_X2 tyX2 tyX2_ok nmX2 (Or.inl ⟨rfl, rfl⟩) rfl (Or.inl mw_477) dX2_copy_65 rfl) ?_
  refine mb_l_cons (ms_aload_n dX2_copy_68 rfl rfl) ?_
  refine mb_l_cons (ms_aret dX2_copy_69 rfl (Or.inl ⟨_, rfl⟩)) ?_
  exact mb_l_nil
theorem mr_X3_init (hX : mb_Fx l D cT s0 args0) : ∀ pc i, mb_look mc_X3_init pc = some i → mb_Snd l D cT s0 mb_mt RX3 "<init>" cX3_init 3 none [] pc i := by
  unfold mc_X3_init
  refine mb_l_cons (ms_aload_n dX3_init_0 rfl rfl) ?_
  refine mb_l_cons (ms_oinit hX dX3_init_1 rfl mw_300 mw_43 mw_objcode) ?_
  refine mb_l_cons (ms_aload_n dX3_init_4 rfl rfl) ?_
  refine mb_l_cons (ms_bipush dX3_init_5 rfl rfl) ?_
  refine mb_l_cons (ms_newi hX mw_172 dX3_init_7 rfl) ?_
  refine mb_l_cons (ms_putF (ci := 3) (kf := 1) (z := 2) hX (C := RX3) (T := TX3) (N := 3) rfl (by decide) mu_X3 tyX3 tyX3_ok nmX3 (Or.inr (Or.inr ⟨rfl, Or.inr ⟨_, rfl⟩⟩)) rfl rfl rfl mw_303 dX3_init_9 rfl) ?_
  refine mb_l_cons (ms_aload_n dX3_init_12 rfl rfl) ?_
  refine mb_l_cons (ms_iload_n dX3_init_13 rfl rfl) ?_
  refine mb_l_cons (ms_putF (ci := 3) (kf := 0) (z := 0) hX (C := RX3) (T := TX3) (N := 3) rfl (by decide) mu_X3 tyX3 tyX3_ok nmX3 (Or.inl ⟨rfl, rfl⟩) rfl rfl rfl mw_301 dX3_init_14 rfl) ?_
  refine mb_l_cons (ms_iconst dX3_init_17 rfl rfl) ?_
  refine mb_l_cons (ms_istore_n dX3_init_18 rfl rfl) ?_
  refine mb_l_cons (ms_iload_n dX3_init_19 rfl rfl) ?_
  refine mb_l_cons (ms_bipush dX3_init_20 rfl rfl) ?_
  refine mb_l_cons (ms_icmp_ge dX3_init_22 rfl rfl) ?_
  refine mb_l_cons (ms_aload_n dX3_init_25 rfl rfl) ?_
  refine mb_l_cons (ms_getf (ci := 3) (kf := 1) hX (C := RX3) (T := TX3) (N := 3) rfl (by decide) mu_X3 (Or.inl mw_303) dX3_init_26 rfl) ?_
  refine mb_l_cons (ms_iload_n dX3_init_29 rfl rfl) ?_
  refine mb_l_cons (ms_iconst dX3_init_30 rfl rfl) ?_
  refine mb_l_cons (ms_iast hX dX3_init_31 rfl) ?_
  refine mb_l_cons (ms_iinc dX3_init_32 rfl rfl) ?_
  refine mb_l_cons (ms_goto dX3_init_35 rfl) ?_
  refine mb_l_cons (ms_vret dX3_init_38 rfl) ?_
  exact mb_l_nil
theorem mr_X3_versionOf (hX : mb_Fx l D cT s0 args0) : ∀ pc i, mb_look mc_X3_versionOf pc = some i → mb_Snd l D cT s0 mb_mt RX3 "versionOf" cX3_versionOf 2 (some .int) [] pc i := by
  unfold mc_X3_versionOf
  refine mb_l_cons (ms_iload_n dX3_versionOf_0 rfl rfl) ?_
  refine mb_l_cons (ms_if_lt dX3_versionOf_1 rfl rfl) ?_
  refine mb_l_cons (ms_iload_n dX3_versionOf_4 rfl rfl) ?_
  refine mb_l_cons (ms_bipush dX3_versionOf_5 rfl rfl) ?_
  refine mb_l_cons (ms_icmp_lt dX3_versionOf_7 rfl rfl) ?_
  refine mb_l_cons (ms_iconst dX3_versionOf_10 rfl rfl) ?_
  refine mb_l_cons (ms_goto dX3_versionOf_11 rfl) ?_
  refine mb_l_cons (ms_aload_n dX3_versionOf_14 rfl rfl) ?_
  refine mb_l_cons (ms_getf (ci := 3) (kf := 1) hX (C := RX3) (T := TX3) (N := 3) rfl (by decide) mu_X3 (Or.inl mw_303) dX3_versionOf_15 rfl) ?_
  refine mb_l_cons (ms_iload_n dX3_versionOf_18 rfl rfl) ?_
  refine mb_l_cons (ms_iald hX dX3_versionOf_19 rfl) ?_
  refine mb_l_cons (ms_iret dX3_versionOf_20 rfl) ?_
  exact mb_l_nil
theorem mr_X3_keepVersion (hX : mb_Fx l D cT s0 args0) : ∀ pc i, mb_look mc_X3_keepVersion pc = some i → mb_Snd l D cT s0 mb_mt RX3 "keepVersion" cX3_keepVersion 3 none [] pc i := by
  unfold mc_X3_keepVersion
  refine mb_l_cons (ms_iload_n dX3_keepVersion_0 rfl rfl) ?_
  refine mb_l_cons (ms_if_lt dX3_keepVersion_1 rfl rfl) ?_
  refine mb_l_cons (ms_iload_n dX3_keepVersion_4 rfl rfl) ?_
  refine mb_l_cons (ms_bipush dX3_keepVersion_5 rfl rfl) ?_
  refine mb_l_cons (ms_icmp_ge dX3_keepVersion_7 rfl rfl) ?_
  refine mb_l_cons (ms_aload_n dX3_keepVersion_10 rfl rfl) ?_
  refine mb_l_cons (ms_getf (ci := 3) (kf := 1) hX (C := RX3) (T := TX3) (N := 3) rfl (by decide) mu_X3 (Or.inl mw_303) dX3_keepVersion_11 rfl) ?_
  refine mb_l_cons (ms_iload_n dX3_keepVersion_14 rfl rfl) ?_
  refine mb_l_cons (ms_iload_n dX3_keepVersion_15 rfl rfl) ?_
  refine mb_l_cons (ms_iast hX dX3_keepVersion_16 rfl) ?_
  refine mb_l_cons (ms_vret dX3_keepVersion_17 rfl) ?_
  exact mb_l_nil
theorem mr_X4_init (hX : mb_Fx l D cT s0 args0) : ∀ pc i, mb_look mc_X4_init pc = some i → mb_Snd l D cT s0 mb_mt RX4 "<init>" cX4_init 3 none [] pc i := by
  unfold mc_X4_init
  refine mb_l_cons (ms_aload_n dX4_init_0 rfl rfl) ?_
  refine mb_l_cons (ms_oinit hX dX4_init_1 rfl mw_612 mw_43 mw_objcode) ?_
  refine mb_l_cons (ms_aload_n dX4_init_4 rfl rfl) ?_
  refine mb_l_cons (ms_iload_n dX4_init_5 rfl rfl) ?_
  refine mb_l_cons (ms_putF (ci := 4) (kf := 0) (z := 0) hX (C := RX4) (T := TX4) (N := 4) rfl (by decide) mu_X4 tyX4 tyX4_ok nmX4 (Or.inl ⟨rfl, rfl⟩) rfl rfl rfl mw_613 dX4_init_6 rfl) ?_
  refine mb_l_cons (ms_aload_n dX4_init_9 rfl rfl) ?_
  refine mb_l_cons (ms_iload_n dX4_init_10 rfl rfl) ?_
  refine mb_l_cons (ms_putf (ci := 4) (kf := 1) (z := 0) hX (C := RX4) (T := TX4) (N := 4) rfl (by decide) mu_X4 tyX4 tyX4_ok nmX4 (Or.inl ⟨rfl, rfl⟩) rfl (Or.inl mw_615) dX4_init_11 rfl) ?_
  refine mb_l_cons (ms_vret dX4_init_14 rfl) ?_
  exact mb_l_nil
theorem mr_X4_followCut (hX : mb_Fx l D cT s0 args0) : ∀ pc i, mb_look mc_X4_followCut pc = some i → mb_Snd l D cT s0 mb_mt RX4 "followCut" cX4_followCut 4 none [] pc i := by
  unfold mc_X4_followCut
  refine mb_l_cons (ms_aload_n dX4_followCut_0 rfl rfl) ?_
  refine mb_l_cons (ms_getf (ci := 4) (kf := 1) hX (C := RX4) (T := TX4) (N := 4) rfl (by decide) mu_X4 (Or.inl mw_615) dX4_followCut_1 rfl) ?_
  refine mb_l_cons (ms_iload_n dX4_followCut_4 rfl rfl) ?_
  refine mb_l_cons (ms_iload_n dX4_followCut_5 rfl rfl) ?_
  refine mb_l_cons (ms_iadd dX4_followCut_6 rfl) ?_
  refine mb_l_cons (ms_icmp_lt dX4_followCut_7 rfl rfl) ?_
  refine mb_l_cons (ms_aload_n dX4_followCut_10 rfl rfl) ?_
  refine mb_l_cons (ms_dup dX4_followCut_11 rfl) ?_
  refine mb_l_cons (ms_getf (ci := 4) (kf := 1) hX (C := RX4) (T := TX4) (N := 4) rfl (by decide) mu_X4 (Or.inl mw_615) dX4_followCut_12 rfl) ?_
  refine mb_l_cons (ms_iload_n dX4_followCut_15 rfl rfl) ?_
  refine mb_l_cons (ms_isub dX4_followCut_16 rfl) ?_
  refine mb_l_cons (ms_putf (ci := 4) (kf := 1) (z := 0) hX (C := RX4) (T := TX4) (N := 4) rfl (by decide) mu_X4 tyX4 tyX4_ok nmX4 (Or.inl ⟨rfl, rfl⟩) rfl (Or.inl mw_615) dX4_followCut_17 rfl) ?_
  refine mb_l_cons (ms_goto dX4_followCut_20 rfl) ?_
  refine mb_l_cons (ms_aload_n dX4_followCut_23 rfl rfl) ?_
  refine mb_l_cons (ms_getf (ci := 4) (kf := 1) hX (C := RX4) (T := TX4) (N := 4) rfl (by decide) mu_X4 (Or.inl mw_615) dX4_followCut_24 rfl) ?_
  refine mb_l_cons (ms_iload_n dX4_followCut_27 rfl rfl) ?_
  refine mb_l_cons (ms_icmp_lt dX4_followCut_28 rfl rfl) ?_
  refine mb_l_cons (ms_aload_n dX4_followCut_31 rfl rfl) ?_
  refine mb_l_cons (ms_iload_n dX4_followCut_32 rfl rfl) ?_
  refine mb_l_cons (ms_iload_n dX4_followCut_33 rfl rfl) ?_
  refine mb_l_cons (ms_icmp_ge dX4_followCut_34 rfl rfl) ?_
  refine mb_l_cons (ms_iload_n dX4_followCut_37 rfl rfl) ?_
  refine mb_l_cons (ms_goto dX4_followCut_38 rfl) ?_
  refine mb_l_cons (ms_iload_n dX4_followCut_41 rfl rfl) ?_
  refine mb_l_cons (ms_iconst dX4_followCut_42 rfl rfl) ?_
  refine mb_l_cons (ms_isub dX4_followCut_43 rfl) ?_
  refine mb_l_cons (ms_putf (ci := 4) (kf := 1) (z := 0) hX (C := RX4) (T := TX4) (N := 4) rfl (by decide) mu_X4 tyX4 tyX4_ok nmX4 (Or.inl ⟨rfl, rfl⟩) rfl (Or.inl mw_615) dX4_followCut_44 rfl) ?_
  refine mb_l_cons (ms_aload_n dX4_followCut_47 rfl rfl) ?_
  refine mb_l_cons (ms_dup dX4_followCut_48 rfl) ?_
  refine mb_l_cons (ms_getf (ci := 4) (kf := 2) hX (C := RX4) (T := TX4) (N := 4) rfl (by decide) mu_X4 (Or.inl mw_617) dX4_followCut_49 rfl) ?_
  refine mb_l_cons (ms_iconst dX4_followCut_52 rfl rfl) ?_
  refine mb_l_cons (ms_iadd dX4_followCut_53 rfl) ?_
  refine mb_l_cons (ms_putf (ci := 4) (kf := 2) (z := 0) hX (C := RX4) (T := TX4) (N := 4) rfl (by decide) mu_X4 tyX4 tyX4_ok nmX4 (Or.inl ⟨rfl, rfl⟩) rfl (Or.inl mw_617) dX4_followCut_54 rfl) ?_
  refine mb_l_cons (ms_vret dX4_followCut_57 rfl) ?_
  exact mb_l_nil
theorem mr_X5_init (hX : mb_Fx l D cT s0 args0) : ∀ pc i, mb_look mc_X5_init pc = some i → mb_Snd l D cT s0 mb_mt RX5 "<init>" cX5_init 1 none [] pc i := by
  unfold mc_X5_init
  refine mb_l_cons (ms_aload_n dX5_init_0 rfl rfl) ?_
  refine mb_l_cons (ms_oinit hX dX5_init_1 rfl mw_155 mw_43 mw_objcode) ?_
  refine mb_l_cons (ms_aload_n dX5_init_4 rfl rfl) ?_
  refine mb_l_cons (ms_bipush dX5_init_5 rfl rfl) ?_
  refine mb_l_cons (ms_newi hX mw_172 dX5_init_7 rfl) ?_
  refine mb_l_cons (ms_putF (ci := 5) (kf := 0) (z := 2) hX (C := RX5) (T := TX5) (N := 4) rfl (by decide) mu_X5 tyX5 tyX5_ok nmX5 (Or.inr (Or.inr ⟨rfl, Or.inr ⟨_, rfl⟩⟩)) rfl rfl rfl mw_158 dX5_init_9 rfl) ?_
  refine mb_l_cons (ms_aload_n dX5_init_12 rfl rfl) ?_
  refine mb_l_cons (ms_bipush dX5_init_13 rfl rfl) ?_
  refine mb_l_cons (ms_newq (ci := 2) hX (C := RX2) rfl mw_156 mw_157 dX5_init_15 rfl) ?_
  refine mb_l_cons (ms_putF (ci := 5) (kf := 1) (z := 2) hX (C := RX5) (T := TX5) (N := 4) rfl (by decide) mu_X5 tyX5 tyX5_ok nmX5 (Or.inr (Or.inr ⟨rfl, Or.inr ⟨_, rfl⟩⟩)) rfl rfl rfl mw_159 dX5_init_18 rfl) ?_
  refine mb_l_cons (ms_vret dX5_init_21 rfl) ?_
  exact mb_l_nil
theorem mr_X5_hasBone (hX : mb_Fx l D cT s0 args0) : ∀ pc i, mb_look mc_X5_hasBone pc = some i → mb_Snd l D cT s0 mb_mt RX5 "hasBone" cX5_hasBone 2 (some .boolean) [] pc i := by
  unfold mc_X5_hasBone
  refine mb_l_cons (ms_iload_n dX5_hasBone_0 rfl rfl) ?_
  refine mb_l_cons (ms_if_lt dX5_hasBone_1 rfl rfl) ?_
  refine mb_l_cons (ms_iload_n dX5_hasBone_4 rfl rfl) ?_
  refine mb_l_cons (ms_aload_n dX5_hasBone_5 rfl rfl) ?_
  refine mb_l_cons (ms_getf (ci := 5) (kf := 2) hX (C := RX5) (T := TX5) (N := 4) rfl (by decide) mu_X5 (Or.inl mw_160) dX5_hasBone_6 rfl) ?_
  refine mb_l_cons (ms_icmp_ge dX5_hasBone_9 rfl rfl) ?_
  refine mb_l_cons (ms_iconst dX5_hasBone_12 rfl rfl) ?_
  refine mb_l_cons (ms_goto dX5_hasBone_13 rfl) ?_
  refine mb_l_cons (ms_iconst dX5_hasBone_16 rfl rfl) ?_
  refine mb_l_cons (ms_zret dX5_hasBone_17 rfl) ?_
  exact mb_l_nil
theorem mr_X5_curveOf (hX : mb_Fx l D cT s0 args0) : ∀ pc i, mb_look mc_X5_curveOf pc = some i → mb_Snd l D cT s0 mb_mt RX5 "curveOf" cX5_curveOf 2 (some (.object "PegbarBarn$Curve")) [] pc i := by
  unfold mc_X5_curveOf
  refine mb_l_cons (ms_aload_n dX5_curveOf_0 rfl rfl) ?_
  refine mb_l_cons (ms_iload_n dX5_curveOf_1 rfl rfl) ?_
  refine mb_l_cons (ms_callv (ci := 5) hX (y := 22) (y0 := yX5_hasBone) (bytes := cX5_hasBone) rfl (C := RX5) (T := TX5) (N := 4) rfl mq_X5_25_X5_hasBone mw_245 mw_203 mw_204 dX5_curveOf_2 (fun _ _ _ h => nomatch h) rfl) ?_
  refine mb_l_cons (ms_if_eq dX5_curveOf_5 rfl rfl) ?_
  refine mb_l_cons (ms_aload_n dX5_curveOf_8 rfl rfl) ?_
  refine mb_l_cons (ms_getf (ci := 5) (kf := 1) hX (C := RX5) (T := TX5) (N := 4) rfl (by decide) mu_X5 (Or.inl mw_159) dX5_curveOf_9 rfl) ?_
  refine mb_l_cons (ms_iload_n dX5_curveOf_12 rfl rfl) ?_
  refine mb_l_cons (ms_aald hX dX5_curveOf_13 rfl) ?_
  refine mb_l_cons (ms_goto dX5_curveOf_14 rfl) ?_
  refine mb_l_cons (ms_null dX5_curveOf_17 rfl) ?_
  refine mb_l_cons (ms_aret dX5_curveOf_18 rfl (Or.inl ⟨_, rfl⟩)) ?_
  exact mb_l_nil
theorem mr_X5_addBone (hX : mb_Fx l D cT s0 args0) : ∀ pc i, mb_look mc_X5_addBone pc = some i → mb_Snd l D cT s0 mb_mt RX5 "addBone" cX5_addBone 2 (some .int) [] pc i := by
  unfold mc_X5_addBone
  refine mb_l_cons (ms_aload_n dX5_addBone_0 rfl rfl) ?_
  refine mb_l_cons (ms_iload_n dX5_addBone_1 rfl rfl) ?_
  refine mb_l_cons (ms_new (ci := 2) hX (C := RX2) (T := TX2) (N := 4) rfl mu_X2 tyX2 tyX2_ok mf_X2 rfl mw_156 mw_469 mw_33 dX5_addBone_2 rfl) ?_
  refine mb_l_cons (ms_dup dX5_addBone_5 rfl) ?_
  refine mb_l_cons (ms_callin hX (y := 6) (y0 := yX2_init) (bytes := cX2_init) rfl mq_X5_29_X2_init rfl mw_470 mw_471 dX5_addBone_6 rfl) ?_
  refine mb_l_cons (ms_callv (ci := 5) hX (y := 25) (y0 := yX5_append) (bytes := cX5_append) rfl (C := RX5) (T := TX5) (N := 4) rfl mq_X5_30_X5_append mw_488 mw_489 mw_490 dX5_addBone_9 (fun _ _ _ h => nomatch h) rfl) ?_
  refine mb_l_cons (ms_iret dX5_addBone_12 rfl) ?_
  exact mb_l_nil
theorem mr_X5_append (hX : mb_Fx l D cT s0 args0) : ∀ pc i, mb_look mc_X5_append pc = some i → mb_Snd l D cT s0 mb_mt RX5 "append" cX5_append 3 (some .int) [] pc i := by
  unfold mc_X5_append
  refine mb_l_cons (ms_aload_n dX5_append_0 rfl rfl) ?_
  refine mb_l_cons (ms_getf (ci := 5) (kf := 2) hX (C := RX5) (T := TX5) (N := 4) rfl (by decide) mu_X5 (Or.inl mw_160) dX5_append_1 rfl) ?_
  refine mb_l_cons (ms_bipush dX5_append_4 rfl rfl) ?_
  refine mb_l_cons (ms_icmp_lt dX5_append_6 rfl rfl) ?_
  refine mb_l_cons (ms_iconst dX5_append_9 rfl rfl) ?_
  refine mb_l_cons (ms_iret dX5_append_10 rfl) ?_
  refine mb_l_cons (ms_aload_n dX5_append_11 rfl rfl) ?_
  refine mb_l_cons (ms_getf (ci := 5) (kf := 0) hX (C := RX5) (T := TX5) (N := 4) rfl (by decide) mu_X5 (Or.inl mw_158) dX5_append_12 rfl) ?_
  refine mb_l_cons (ms_aload_n dX5_append_15 rfl rfl) ?_
  refine mb_l_cons (ms_getf (ci := 5) (kf := 2) hX (C := RX5) (T := TX5) (N := 4) rfl (by decide) mu_X5 (Or.inl mw_160) dX5_append_16 rfl) ?_
  refine mb_l_cons (ms_iload_n dX5_append_19 rfl rfl) ?_
  refine mb_l_cons (ms_iast hX dX5_append_20 rfl) ?_
  refine mb_l_cons (ms_aload_n dX5_append_21 rfl rfl) ?_
  refine mb_l_cons (ms_getf (ci := 5) (kf := 1) hX (C := RX5) (T := TX5) (N := 4) rfl (by decide) mu_X5 (Or.inl mw_159) dX5_append_22 rfl) ?_
  refine mb_l_cons (ms_aload_n dX5_append_25 rfl rfl) ?_
  refine mb_l_cons (ms_getf (ci := 5) (kf := 2) hX (C := RX5) (T := TX5) (N := 4) rfl (by decide) mu_X5 (Or.inl mw_160) dX5_append_26 rfl) ?_
  refine mb_l_cons (ms_aload_n dX5_append_29 rfl rfl) ?_
  refine mb_l_cons (ms_aast (ci := 2) hX (C := RX2) (T := TX2) (N := 4) rfl rfl dX5_append_30 rfl) ?_
  refine mb_l_cons (ms_aload_n dX5_append_31 rfl rfl) ?_
  refine mb_l_cons (ms_dup dX5_append_32 rfl) ?_
  refine mb_l_cons (ms_getf (ci := 5) (kf := 2) hX (C := RX5) (T := TX5) (N := 4) rfl (by decide) mu_X5 (Or.inl mw_160) dX5_append_33 rfl) ?_
  refine mb_l_cons (ms_dupx1 dX5_append_36 rfl) ?_
  refine mb_l_cons (ms_iconst dX5_append_37 rfl rfl) ?_
  refine mb_l_cons (ms_iadd dX5_append_38 rfl) ?_
  refine mb_l_cons (ms_putf (ci := 5) (kf := 2) (z := 0) hX (C := RX5) (T := TX5) (N := 4) rfl (by decide) mu_X5 tyX5 tyX5_ok nmX5 (Or.inl ⟨rfl, rfl⟩) rfl (Or.inl mw_160) dX5_append_39 rfl) ?_
  refine mb_l_cons (ms_iret dX5_append_42 rfl) ?_
  exact mb_l_nil
theorem mr_X5_ownValue (hX : mb_Fx l D cT s0 args0) : ∀ pc i, mb_look mc_X5_ownValue pc = some i → mb_Snd l D cT s0 mb_mt RX5 "ownValue" cX5_ownValue 4 (some .int) [] pc i := by
  unfold mc_X5_ownValue
  refine mb_l_cons (ms_aload_n dX5_ownValue_0 rfl rfl) ?_
  refine mb_l_cons (ms_iload_n dX5_ownValue_1 rfl rfl) ?_
  refine mb_l_cons (ms_callv (ci := 5) hX (y := 23) (y0 := yX5_curveOf) (bytes := cX5_curveOf) rfl (C := RX5) (T := TX5) (N := 4) rfl mq_X5_34_X5_curveOf mw_257 mw_258 mw_259 dX5_ownValue_2 (fun _ _ _ h => nomatch h) rfl) ?_
  refine mb_l_cons (ms_astore_n dX5_ownValue_5 rfl rfl) ?_
  refine mb_l_cons (ms_aload_n dX5_ownValue_6 rfl rfl) ?_
  refine mb_l_cons (ms_ifnonnull dX5_ownValue_7 rfl rfl) ?_
  refine mb_l_cons (ms_iconst dX5_ownValue_10 rfl rfl) ?_
  refine mb_l_cons (ms_goto dX5_ownValue_11 rfl) ?_
  refine mb_l_cons (ms_aload_n dX5_ownValue_14 rfl rfl) ?_
  refine mb_l_cons (ms_iload_n dX5_ownValue_15 rfl rfl) ?_
  refine mb_l_cons (ms_callv (ci := 2) hX (y := 13) (y0 := yX2_valueAt) (bytes := cX2_valueAt) rfl (C := RX2) (T := TX2) (N := 4) rfl mq_X5_38_X2_valueAt mw_261 mw_262 mw_263 dX5_ownValue_16 (fun _ _ _ h => nomatch h) rfl) ?_
  refine mb_l_cons (ms_iret dX5_ownValue_19 rfl) ?_
  exact mb_l_nil
theorem mr_X5_poseUpwards (hX : mb_Fx l D cT s0 args0) : ∀ pc i, mb_look mc_X5_poseUpwards pc = some i → mb_Snd l D cT s0 mb_mt RX5 "poseUpwards" cX5_poseUpwards 6 (some .int) [] pc i := by
  unfold mc_X5_poseUpwards
  refine mb_l_cons (ms_iconst dX5_poseUpwards_0 rfl rfl) ?_
  refine mb_l_cons (ms_istore_n dX5_poseUpwards_1 rfl rfl) ?_
  refine mb_l_cons (ms_iload_n dX5_poseUpwards_2 rfl rfl) ?_
  refine mb_l_cons (ms_istore dX5_poseUpwards_3 rfl) ?_
  refine mb_l_cons (ms_iconst dX5_poseUpwards_5 rfl rfl) ?_
  refine mb_l_cons (ms_istore dX5_poseUpwards_6 rfl) ?_
  refine mb_l_cons (ms_iload dX5_poseUpwards_8 rfl) ?_
  refine mb_l_cons (ms_bipush dX5_poseUpwards_10 rfl rfl) ?_
  refine mb_l_cons (ms_icmp_ge dX5_poseUpwards_12 rfl rfl) ?_
  refine mb_l_cons (ms_aload_n dX5_poseUpwards_15 rfl rfl) ?_
  refine mb_l_cons (ms_iload dX5_poseUpwards_16 rfl) ?_
  refine mb_l_cons (ms_callv (ci := 5) hX (y := 22) (y0 := yX5_hasBone) (bytes := cX5_hasBone) rfl (C := RX5) (T := TX5) (N := 4) rfl mq_X5_25_X5_hasBone mw_245 mw_203 mw_204 dX5_poseUpwards_18 (fun _ _ _ h => nomatch h) rfl) ?_
  refine mb_l_cons (ms_if_eq dX5_poseUpwards_21 rfl rfl) ?_
  refine mb_l_cons (ms_iload_n dX5_poseUpwards_24 rfl rfl) ?_
  refine mb_l_cons (ms_aload_n dX5_poseUpwards_25 rfl rfl) ?_
  refine mb_l_cons (ms_iload dX5_poseUpwards_26 rfl) ?_
  refine mb_l_cons (ms_iload_n dX5_poseUpwards_28 rfl rfl) ?_
  refine mb_l_cons (ms_callv (ci := 5) hX (y := 26) (y0 := yX5_ownValue) (bytes := cX5_ownValue) rfl (C := RX5) (T := TX5) (N := 4) rfl mq_X5_42_X5_ownValue mw_253 mw_254 mw_255 dX5_poseUpwards_29 (fun _ _ _ h => nomatch h) rfl) ?_
  refine mb_l_cons (ms_iadd dX5_poseUpwards_32 rfl) ?_
  refine mb_l_cons (ms_istore_n dX5_poseUpwards_33 rfl rfl) ?_
  refine mb_l_cons (ms_aload_n dX5_poseUpwards_34 rfl rfl) ?_
  refine mb_l_cons (ms_getf (ci := 5) (kf := 0) hX (C := RX5) (T := TX5) (N := 4) rfl (by decide) mu_X5 (Or.inl mw_158) dX5_poseUpwards_35 rfl) ?_
  refine mb_l_cons (ms_iload dX5_poseUpwards_38 rfl) ?_
  refine mb_l_cons (ms_iald hX dX5_poseUpwards_40 rfl) ?_
  refine mb_l_cons (ms_istore dX5_poseUpwards_41 rfl) ?_
  refine mb_l_cons (ms_iinc dX5_poseUpwards_43 rfl rfl) ?_
  refine mb_l_cons (ms_goto dX5_poseUpwards_46 rfl) ?_
  refine mb_l_cons (ms_iload_n dX5_poseUpwards_49 rfl rfl) ?_
  refine mb_l_cons (ms_iret dX5_poseUpwards_50 rfl) ?_
  exact mb_l_nil
theorem mr_X5_poseAt (hX : mb_Fx l D cT s0 args0) : ∀ pc i, mb_look mc_X5_poseAt pc = some i → mb_Snd l D cT s0 mb_mt RX5 "poseAt" cX5_poseAt 3 (some .int) [] pc i := by
  unfold mc_X5_poseAt
  refine mb_l_cons (ms_aload_n dX5_poseAt_0 rfl rfl) ?_
  refine mb_l_cons (ms_getf (ci := 5) (kf := 3) hX (C := RX5) (T := TX5) (N := 4) rfl (by decide) mu_X5 (Or.inl mw_162) dX5_poseAt_1 rfl) ?_
  refine mb_l_cons (ms_ifnull dX5_poseAt_4 rfl rfl) ?_
  refine mb_l_cons (ms_aload_n dX5_poseAt_7 rfl rfl) ?_
  refine mb_l_cons (ms_iload_n dX5_poseAt_8 rfl rfl) ?_
  refine mb_l_cons (ms_callv (ci := 5) hX (y := 22) (y0 := yX5_hasBone) (bytes := cX5_hasBone) rfl (C := RX5) (T := TX5) (N := 4) rfl mq_X5_25_X5_hasBone mw_245 mw_203 mw_204 dX5_poseAt_9 (fun _ _ _ h => nomatch h) rfl) ?_
  refine mb_l_cons (ms_if_eq dX5_poseAt_12 rfl rfl) ?_
  refine mb_l_cons (ms_iload_n dX5_poseAt_15 rfl rfl) ?_
  refine mb_l_cons (ms_callsn hX (y := 68) (y0 := yX7_canBeShown) (bytes := cX7_canBeShown) rfl mq_X5_49_X7_canBeShown mw_246 mw_247 dX5_poseAt_16 rfl) ?_
  refine mb_l_cons (ms_if_ne dX5_poseAt_19 rfl rfl) ?_
  refine mb_l_cons (ms_aload_n dX5_poseAt_22 rfl rfl) ?_
  refine mb_l_cons (ms_iload_n dX5_poseAt_23 rfl rfl) ?_
  refine mb_l_cons (ms_iload_n dX5_poseAt_24 rfl rfl) ?_
  refine mb_l_cons (ms_callv (ci := 5) hX (y := 27) (y0 := yX5_poseUpwards) (bytes := cX5_poseUpwards) rfl (C := RX5) (T := TX5) (N := 4) rfl mq_X5_52_X5_poseUpwards mw_249 mw_250 mw_251 dX5_poseAt_25 (fun _ _ _ h => nomatch h) rfl) ?_
  refine mb_l_cons (ms_iret dX5_poseAt_28 rfl) ?_
  refine mb_l_cons (ms_aload_n dX5_poseAt_29 rfl rfl) ?_
  refine mb_l_cons (ms_getf (ci := 5) (kf := 3) hX (C := RX5) (T := TX5) (N := 4) rfl (by decide) mu_X5 (Or.inl mw_162) dX5_poseAt_30 rfl) ?_
  refine mb_l_cons (ms_iload_n dX5_poseAt_33 rfl rfl) ?_
  refine mb_l_cons (ms_aload_n dX5_poseAt_34 rfl rfl) ?_
  refine mb_l_cons (ms_getf (ci := 5) (kf := 2) hX (C := RX5) (T := TX5) (N := 4) rfl (by decide) mu_X5 (Or.inl mw_160) dX5_poseAt_35 rfl) ?_
  refine mb_l_cons (ms_imul dX5_poseAt_38 rfl) ?_
  refine mb_l_cons (ms_iload_n dX5_poseAt_39 rfl rfl) ?_
  refine mb_l_cons (ms_iadd dX5_poseAt_40 rfl) ?_
  refine mb_l_cons (ms_iald hX dX5_poseAt_41 rfl) ?_
  refine mb_l_cons (ms_iret dX5_poseAt_42 rfl) ?_
  exact mb_l_nil
theorem mr_X5_looksLike (hX : mb_Fx l D cT s0 args0) : ∀ pc i, mb_look mc_X5_looksLike pc = some i → mb_Snd l D cT s0 mb_mt RX5 "looksLike" cX5_looksLike 5 (some .boolean) [] pc i := by
  unfold mc_X5_looksLike
  refine mb_l_cons (ms_aload_n dX5_looksLike_0 rfl rfl) ?_
  refine mb_l_cons (ms_getf (ci := 5) (kf := 3) hX (C := RX5) (T := TX5) (N := 4) rfl (by decide) mu_X5 (Or.inl mw_162) dX5_looksLike_1 rfl) ?_
  refine mb_l_cons (ms_astore_n dX5_looksLike_4 rfl rfl) ?_
  refine mb_l_cons (ms_aload_n dX5_looksLike_5 rfl rfl) ?_
  refine mb_l_cons (ms_getf (ci := 5) (kf := 3) hX (C := RX5) (T := TX5) (N := 4) rfl (by decide) mu_X5 (Or.inl mw_162) dX5_looksLike_6 rfl) ?_
  refine mb_l_cons (ms_ifnull dX5_looksLike_9 rfl rfl) ?_
  refine mb_l_cons (ms_aload_n dX5_looksLike_12 rfl rfl) ?_
  refine mb_l_cons (ms_ifnull dX5_looksLike_13 rfl rfl) ?_
  refine mb_l_cons (ms_aload_n dX5_looksLike_16 rfl rfl) ?_
  refine mb_l_cons (ms_getf (ci := 5) (kf := 2) hX (C := RX5) (T := TX5) (N := 4) rfl (by decide) mu_X5 (Or.inl mw_160) dX5_looksLike_17 rfl) ?_
  refine mb_l_cons (ms_aload_n dX5_looksLike_20 rfl rfl) ?_
  refine mb_l_cons (ms_getf (ci := 5) (kf := 2) hX (C := RX5) (T := TX5) (N := 4) rfl (by decide) mu_X5 (Or.inl mw_160) dX5_looksLike_21 rfl) ?_
  refine mb_l_cons (ms_icmp_ne dX5_looksLike_24 rfl rfl) ?_
  refine mb_l_cons (ms_iload_n dX5_looksLike_27 rfl rfl) ?_
  refine mb_l_cons (ms_callsn hX (y := 68) (y0 := yX7_canBeShown) (bytes := cX7_canBeShown) rfl mq_X5_49_X7_canBeShown mw_246 mw_247 dX5_looksLike_28 rfl) ?_
  refine mb_l_cons (ms_if_ne dX5_looksLike_31 rfl rfl) ?_
  refine mb_l_cons (ms_iconst dX5_looksLike_34 rfl rfl) ?_
  refine mb_l_cons (ms_zret dX5_looksLike_35 rfl) ?_
  refine mb_l_cons (ms_iload_n dX5_looksLike_36 rfl rfl) ?_
  refine mb_l_cons (ms_aload_n dX5_looksLike_37 rfl rfl) ?_
  refine mb_l_cons (ms_getf (ci := 5) (kf := 2) hX (C := RX5) (T := TX5) (N := 4) rfl (by decide) mu_X5 (Or.inl mw_160) dX5_looksLike_38 rfl) ?_
  refine mb_l_cons (ms_imul dX5_looksLike_41 rfl) ?_
  refine mb_l_cons (ms_istore dX5_looksLike_42 rfl) ?_
  refine mb_l_cons (ms_iload dX5_looksLike_44 rfl) ?_
  refine mb_l_cons (ms_iload_n dX5_looksLike_46 rfl rfl) ?_
  refine mb_l_cons (ms_iconst dX5_looksLike_47 rfl rfl) ?_
  refine mb_l_cons (ms_iadd dX5_looksLike_48 rfl) ?_
  refine mb_l_cons (ms_aload_n dX5_looksLike_49 rfl rfl) ?_
  refine mb_l_cons (ms_getf (ci := 5) (kf := 2) hX (C := RX5) (T := TX5) (N := 4) rfl (by decide) mu_X5 (Or.inl mw_160) dX5_looksLike_50 rfl) ?_
  refine mb_l_cons (ms_imul dX5_looksLike_53 rfl) ?_
  refine mb_l_cons (ms_icmp_ge dX5_looksLike_54 rfl rfl) ?_
  refine mb_l_cons (ms_aload_n dX5_looksLike_57 rfl rfl) ?_
  refine mb_l_cons (ms_getf (ci := 5) (kf := 3) hX (C := RX5) (T := TX5) (N := 4) rfl (by decide) mu_X5 (Or.inl mw_162) dX5_looksLike_58 rfl) ?_
  refine mb_l_cons (ms_iload dX5_looksLike_61 rfl) ?_
  refine mb_l_cons (ms_iald hX dX5_looksLike_63 rfl) ?_
  refine mb_l_cons (ms_aload_n dX5_looksLike_64 rfl rfl) ?_
  refine mb_l_cons (ms_iload dX5_looksLike_65 rfl) ?_
  refine mb_l_cons (ms_iald hX dX5_looksLike_67 rfl) ?_
  refine mb_l_cons (ms_icmp_eq dX5_looksLike_68 rfl rfl) ?_
  refine mb_l_cons (ms_iconst dX5_looksLike_71 rfl rfl) ?_
  refine mb_l_cons (ms_zret dX5_looksLike_72 rfl) ?_
  refine mb_l_cons (ms_iinc dX5_looksLike_73 rfl rfl) ?_
  refine mb_l_cons (ms_goto dX5_looksLike_76 rfl) ?_
  refine mb_l_cons (ms_iconst dX5_looksLike_79 rfl rfl) ?_
  refine mb_l_cons (ms_zret dX5_looksLike_80 rfl) ?_
  exact mb_l_nil
theorem mr_X5_versionOfIt (hX : mb_Fx l D cT s0 args0) : ∀ pc i, mb_look mc_X5_versionOfIt pc = some i → mb_Snd l D cT s0 mb_mt RX5 "versionOfIt" cX5_versionOfIt 4 (some (.object "PegbarBarn$Rig")) [] pc i := by
  unfold mc_X5_versionOfIt
  refine mb_l_cons (ms_new (ci := 5) hX (C := RX5) (T := TX5) (N := 4) rfl mu_X5 tyX5 tyX5_ok mf_X5 rfl mw_543 mw_151 mw_28 dX5_versionOfIt_0 rfl) ?_
  refine mb_l_cons (ms_dup dX5_versionOfIt_3 rfl) ?_
  refine mb_l_cons (ms_calli hX (y := 21) (y0 := yX5_init) (bytes := cX5_init) rfl mq_X5_55_X5_init rfl mw_544 mw_153 dX5_versionOfIt_4 rfl) ?_
  refine mb_l_cons (ms_astore_n dX5_versionOfIt_7 rfl rfl) ?_
  refine mb_l_cons (ms_iconst dX5_versionOfIt_8 rfl rfl) ?_
  refine mb_l_cons (ms_istore_n dX5_versionOfIt_9 rfl rfl) ?_
  refine mb_l_cons (ms_iload_n dX5_versionOfIt_10 rfl rfl) ?_
  refine mb_l_cons (ms_aload_n dX5_versionOfIt_11 rfl rfl) ?_
  refine mb_l_cons (ms_getf (ci := 5) (kf := 2) hX (C := RX5) (T := TX5) (N := 4) rfl (by decide) mu_X5 (Or.inl mw_160) dX5_versionOfIt_12 rfl) ?_
  refine mb_l_cons (ms_icmp_ge dX5_versionOfIt_15 rfl rfl) ?_
  refine mb_l_cons (ms_aload_n dX5_versionOfIt_18 rfl rfl) ?_
  refine mb_l_cons (ms_iload_n dX5_versionOfIt_19 rfl rfl) ?_
  refine mb_l_cons (ms_callv (ci := 5) hX (y := 23) (y0 := yX5_curveOf) (bytes := cX5_curveOf) rfl (C := RX5) (T := TX5) (N := 4) rfl mq_X5_34_X5_curveOf mw_257 mw_258 mw_259 dX5_versionOfIt_20 (fun _ _ _ h => nomatch h) rfl) ?_
  refine mb_l_cons (ms_astore_n dX5_versionOfIt_23 rfl rfl) ?_
  refine mb_l_cons (ms_aload_n dX5_versionOfIt_24 rfl rfl) ?_
  refine mb_l_cons (ms_ifnull dX5_versionOfIt_25 rfl rfl) ?_
  refine mb_l_cons (ms_aload_n dX5_versionOfIt_28 rfl rfl) ?_
  refine mb_l_cons (ms_aload_n dX5_versionOfIt_29 rfl rfl) ?_
  refine mb_l_cons (ms_getf (ci := 5) (kf := 0) hX (C := RX5) (T := TX5) (N := 4) rfl (by decide) mu_X5 (Or.inl mw_158) dX5_versionOfIt_30 rfl) ?_
  refine mb_l_cons (ms_iload_n dX5_versionOfIt_33 rfl rfl) ?_
  refine mb_l_cons (ms_iald hX dX5_versionOfIt_34 rfl) ?_
  refine mb_l_cons (ms_aload_n dX5_versionOfIt_35 rfl rfl) ?_
  refine mb_l_cons (ms_callv (ci := 2) hX (y := 15) (y0 := yX2_copy) (bytes := cX2_copy) rfl (C := RX2) (T := TX2) (N := 4) rfl mq_X5_56_X2_copy mw_545 mw_546 mw_547 dX5_versionOfIt_36 (fun _ _ _ h => nomatch h) rfl) ?_
  refine mb_l_cons (ms_callv (ci := 5) hX (y := 25) (y0 := yX5_append) (bytes := cX5_append) rfl (C := RX5) (T := TX5) (N := 4) rfl mq_X5_30_X5_append mw_488 mw_489 mw_490 dX5_versionOfIt_39 (fun _ _ _ h => nomatch h) rfl) ?_
  refine mb_l_cons (ms_pop dX5_versionOfIt_42 rfl) ?_
  refine mb_l_cons (ms_iinc dX5_versionOfIt_43 rfl rfl) ?_
  refine mb_l_cons (ms_goto dX5_versionOfIt_46 rfl) ?_
  refine mb_l_cons (ms_aload_n dX5_versionOfIt_49 rfl rfl) ?_
  refine mb_l_cons (ms_callv (ci := 5) hX (y := 31) (y0 := yX5_fixPoses) (bytes := cX5_fixPoses) rfl (C := RX5) (T := TX5) (N := 4) rfl mq_X5_60_X5_fixPoses mw_551 mw_552 mw_553 dX5_versionOfIt_50 (fun _ _ _ h => nomatch h) rfl) ?_
  refine mb_l_cons (ms_aload_n dX5_versionOfIt_53 rfl rfl) ?_
  refine mb_l_cons (ms_aret dX5_versionOfIt_54 rfl (Or.inl ⟨_, rfl⟩)) ?_
  exact mb_l_nil
theorem mr_X5_fixPoses (hX : mb_Fx l D cT s0 args0) : ∀ pc i, mb_look mc_X5_fixPoses pc = some i → mb_Snd l D cT s0 mb_mt RX5 "fixPoses" cX5_fixPoses 7 none [] pc i := by
  unfold mc_X5_fixPoses
  refine mb_l_cons (ms_bipush dX5_fixPoses_0 rfl rfl) ?_
  refine mb_l_cons (ms_aload_n dX5_fixPoses_2 rfl rfl) ?_
  refine mb_l_cons (ms_getf (ci := 5) (kf := 2) hX (C := RX5) (T := TX5) (N := 4) rfl (by decide) mu_X5 (Or.inl mw_160) dX5_fixPoses_3 rfl) ?_
  refine mb_l_cons (ms_imul dX5_fixPoses_6 rfl) ?_
  refine mb_l_cons (ms_newi hX mw_172 dX5_fixPoses_7 rfl) ?_
  refine mb_l_cons (ms_astore_n dX5_fixPoses_9 rfl rfl) ?_
  refine mb_l_cons (ms_iconst dX5_fixPoses_10 rfl rfl) ?_
  refine mb_l_cons (ms_istore_n dX5_fixPoses_11 rfl rfl) ?_
  refine mb_l_cons (ms_iload_n dX5_fixPoses_12 rfl rfl) ?_
  refine mb_l_cons (ms_bipush dX5_fixPoses_13 rfl rfl) ?_
  refine mb_l_cons (ms_icmp_ge dX5_fixPoses_15 rfl rfl) ?_
  refine mb_l_cons (ms_iload_n dX5_fixPoses_18 rfl rfl) ?_
  refine mb_l_cons (ms_aload_n dX5_fixPoses_19 rfl rfl) ?_
  refine mb_l_cons (ms_getf (ci := 5) (kf := 2) hX (C := RX5) (T := TX5) (N := 4) rfl (by decide) mu_X5 (Or.inl mw_160) dX5_fixPoses_20 rfl) ?_
  refine mb_l_cons (ms_imul dX5_fixPoses_23 rfl) ?_
  refine mb_l_cons (ms_istore_n dX5_fixPoses_24 rfl rfl) ?_
  refine mb_l_cons (ms_iconst dX5_fixPoses_25 rfl rfl) ?_
  refine mb_l_cons (ms_istore dX5_fixPoses_26 rfl) ?_
  refine mb_l_cons (ms_iload dX5_fixPoses_28 rfl) ?_
  refine mb_l_cons (ms_aload_n dX5_fixPoses_30 rfl rfl) ?_
  refine mb_l_cons (ms_getf (ci := 5) (kf := 2) hX (C := RX5) (T := TX5) (N := 4) rfl (by decide) mu_X5 (Or.inl mw_160) dX5_fixPoses_31 rfl) ?_
  refine mb_l_cons (ms_icmp_ge dX5_fixPoses_34 rfl rfl) ?_
  refine mb_l_cons (ms_aload_n dX5_fixPoses_37 rfl rfl) ?_
  refine mb_l_cons (ms_getf (ci := 5) (kf := 0) hX (C := RX5) (T := TX5) (N := 4) rfl (by decide) mu_X5 (Or.inl mw_158) dX5_fixPoses_38 rfl) ?_
  refine mb_l_cons (ms_iload dX5_fixPoses_41 rfl) ?_
  refine mb_l_cons (ms_iald hX dX5_fixPoses_43 rfl) ?_
  refine mb_l_cons (ms_istore dX5_fixPoses_44 rfl) ?_
  refine mb_l_cons (ms_aload_n dX5_fixPoses_46 rfl rfl) ?_
  refine mb_l_cons (ms_iload dX5_fixPoses_47 rfl) ?_
  refine mb_l_cons (ms_callv (ci := 5) hX (y := 22) (y0 := yX5_hasBone) (bytes := cX5_hasBone) rfl (C := RX5) (T := TX5) (N := 4) rfl mq_X5_25_X5_hasBone mw_245 mw_203 mw_204 dX5_fixPoses_49 (fun _ _ _ h => nomatch h) rfl) ?_
  refine mb_l_cons (ms_if_eq dX5_fixPoses_52 rfl rfl) ?_
  refine mb_l_cons (ms_aload_n dX5_fixPoses_55 rfl rfl) ?_
  refine mb_l_cons (ms_iload_n dX5_fixPoses_56 rfl rfl) ?_
  refine mb_l_cons (ms_iload dX5_fixPoses_57 rfl) ?_
  refine mb_l_cons (ms_iadd dX5_fixPoses_59 rfl) ?_
  refine mb_l_cons (ms_iald hX dX5_fixPoses_60 rfl) ?_
  refine mb_l_cons (ms_goto dX5_fixPoses_61 rfl) ?_
  refine mb_l_cons (ms_iconst dX5_fixPoses_64 rfl rfl) ?_
  refine mb_l_cons (ms_istore dX5_fixPoses_65 rfl) ?_
  refine mb_l_cons (ms_aload_n dX5_fixPoses_67 rfl rfl) ?_
  refine mb_l_cons (ms_iload_n dX5_fixPoses_68 rfl rfl) ?_
  refine mb_l_cons (ms_iload dX5_fixPoses_69 rfl) ?_
  refine mb_l_cons (ms_iadd dX5_fixPoses_71 rfl) ?_
  refine mb_l_cons (ms_iload dX5_fixPoses_72 rfl) ?_
  refine mb_l_cons (ms_aload_n dX5_fixPoses_74 rfl rfl) ?_
  refine mb_l_cons (ms_iload dX5_fixPoses_75 rfl) ?_
  refine mb_l_cons (ms_iload_n dX5_fixPoses_77 rfl rfl) ?_
  refine mb_l_cons (ms_callv (ci := 5) hX (y := 26) (y0 := yX5_ownValue) (bytes := cX5_ownValue) rfl (C := RX5) (T := TX5) (N := 4) rfl mq_X5_42_X5_ownValue mw_253 mw_254 mw_255 dX5_fixPoses_78 (fun _ _ _ h => nomatch h) rfl) ?_
  refine mb_l_cons (ms_iadd dX5_fixPoses_81 rfl) ?_
  refine mb_l_cons (ms_iast hX dX5_fixPoses_82 rfl) ?_
  refine mb_l_cons (ms_iinc dX5_fixPoses_83 rfl rfl) ?_
  refine mb_l_cons (ms_goto dX5_fixPoses_86 rfl) ?_
  refine mb_l_cons (ms_iinc dX5_fixPoses_89 rfl rfl) ?_
  refine mb_l_cons (ms_goto dX5_fixPoses_92 rfl) ?_
  refine mb_l_cons (ms_aload_n dX5_fixPoses_95 rfl rfl) ?_
  refine mb_l_cons (ms_aload_n dX5_fixPoses_96 rfl rfl) ?_
  refine mb_l_cons (ms_putf (ci := 5) (kf := 3) (z := 2) hX (C := RX5) (T := TX5) (N := 4) rfl (by decide) mu_X5 tyX5 tyX5_ok nmX5 (Or.inr (Or.inr ⟨rfl, Or.inr ⟨_, rfl⟩⟩)) rfl (Or.inl mw_162) dX5_fixPoses_97 rfl) ?_
  refine mb_l_cons (ms_vret dX5_fixPoses_100 rfl) ?_
  exact mb_l_nil
theorem mr_X6_init (hX : mb_Fx l D cT s0 args0) : ∀ pc i, mb_look mc_X6_init pc = some i → mb_Snd l D cT s0 mb_mt RX6 "<init>" cX6_init 3 none [] pc i := by
  unfold mc_X6_init
  refine mb_l_cons (ms_aload_n dX6_init_0 rfl rfl) ?_
  refine mb_l_cons (ms_oinit hX dX6_init_1 rfl mw_291 mw_43 mw_objcode) ?_
  refine mb_l_cons (ms_aload_n dX6_init_4 rfl rfl) ?_
  refine mb_l_cons (ms_bipush dX6_init_5 rfl rfl) ?_
  refine mb_l_cons (ms_newq (ci := 3) hX (C := RX3) rfl mw_292 mw_293 dX6_init_7 rfl) ?_
  refine mb_l_cons (ms_putF (ci := 6) (kf := 0) (z := 2) hX (C := RX6) (T := TX6) (N := 4) rfl (by decide) mu_X6 tyX6 tyX6_ok nmX6 (Or.inr (Or.inr ⟨rfl, Or.inr ⟨_, rfl⟩⟩)) rfl rfl rfl mw_312 dX6_init_10 rfl) ?_
  refine mb_l_cons (ms_aload_n dX6_init_13 rfl rfl) ?_
  refine mb_l_cons (ms_bipush dX6_init_14 rfl rfl) ?_
  refine mb_l_cons (ms_newq (ci := 1) hX (C := RX1) rfl mw_294 mw_295 dX6_init_16 rfl) ?_
  refine mb_l_cons (ms_putF (ci := 6) (kf := 1) (z := 2) hX (C := RX6) (T := TX6) (N := 4) rfl (by decide) mu_X6 tyX6 tyX6_ok nmX6 (Or.inr (Or.inr ⟨rfl, Or.inr ⟨_, rfl⟩⟩)) rfl rfl rfl mw_313 dX6_init_19 rfl) ?_
  refine mb_l_cons (ms_iconst dX6_init_22 rfl rfl) ?_
  refine mb_l_cons (ms_istore_n dX6_init_23 rfl rfl) ?_
  refine mb_l_cons (ms_iload_n dX6_init_24 rfl rfl) ?_
  refine mb_l_cons (ms_iload_n dX6_init_25 rfl rfl) ?_
  refine mb_l_cons (ms_icmp_ge dX6_init_26 rfl rfl) ?_
  refine mb_l_cons (ms_iload_n dX6_init_29 rfl rfl) ?_
  refine mb_l_cons (ms_bipush dX6_init_30 rfl rfl) ?_
  refine mb_l_cons (ms_icmp_ge dX6_init_32 rfl rfl) ?_
  refine mb_l_cons (ms_aload_n dX6_init_35 rfl rfl) ?_
  refine mb_l_cons (ms_getf (ci := 6) (kf := 0) hX (C := RX6) (T := TX6) (N := 4) rfl (by decide) mu_X6 (Or.inl mw_312) dX6_init_36 rfl) ?_
  refine mb_l_cons (ms_iload_n dX6_init_39 rfl rfl) ?_
  refine mb_l_cons (ms_new (ci := 3) hX (C := RX3) (T := TX3) (N := 3) rfl mu_X3 tyX3 tyX3_ok mf_X3 rfl mw_292 mw_296 mw_31 dX6_init_40 rfl) ?_
  refine mb_l_cons (ms_dup dX6_init_43 rfl) ?_
  refine mb_l_cons (ms_iload_n dX6_init_44 rfl rfl) ?_
  refine mb_l_cons (ms_calli hX (y := 16) (y0 := yX3_init) (bytes := cX3_init) rfl mq_X6_23_X3_init rfl mw_297 mw_298 dX6_init_45 rfl) ?_
  refine mb_l_cons (ms_aast (ci := 3) hX (C := RX3) (T := TX3) (N := 3) rfl rfl dX6_init_48 rfl) ?_
  refine mb_l_cons (ms_aload_n dX6_init_49 rfl rfl) ?_
  refine mb_l_cons (ms_dup dX6_init_50 rfl) ?_
  refine mb_l_cons (ms_getf (ci := 6) (kf := 2) hX (C := RX6) (T := TX6) (N := 4) rfl (by decide) mu_X6 (Or.inl mw_314) dX6_init_51 rfl) ?_
  refine mb_l_cons (ms_iconst dX6_init_54 rfl rfl) ?_
  refine mb_l_cons (ms_iadd dX6_init_55 rfl) ?_
  refine mb_l_cons (ms_putf (ci := 6) (kf := 2) (z := 0) hX (C := RX6) (T := TX6) (N := 4) rfl (by decide) mu_X6 tyX6 tyX6_ok nmX6 (Or.inl ⟨rfl, rfl⟩) rfl (Or.inl mw_314) dX6_init_56 rfl) ?_
  refine mb_l_cons (ms_iinc dX6_init_59 rfl rfl) ?_
  refine mb_l_cons (ms_goto dX6_init_62 rfl) ?_
  refine mb_l_cons (ms_vret dX6_init_65 rfl) ?_
  exact mb_l_nil
theorem mr_X6_hasFrame (hX : mb_Fx l D cT s0 args0) : ∀ pc i, mb_look mc_X6_hasFrame pc = some i → mb_Snd l D cT s0 mb_mt RX6 "hasFrame" cX6_hasFrame 2 (some .boolean) [] pc i := by
  unfold mc_X6_hasFrame
  refine mb_l_cons (ms_iload_n dX6_hasFrame_0 rfl rfl) ?_
  refine mb_l_cons (ms_if_lt dX6_hasFrame_1 rfl rfl) ?_
  refine mb_l_cons (ms_iload_n dX6_hasFrame_4 rfl rfl) ?_
  refine mb_l_cons (ms_aload_n dX6_hasFrame_5 rfl rfl) ?_
  refine mb_l_cons (ms_getf (ci := 6) (kf := 2) hX (C := RX6) (T := TX6) (N := 4) rfl (by decide) mu_X6 (Or.inl mw_314) dX6_hasFrame_6 rfl) ?_
  refine mb_l_cons (ms_icmp_ge dX6_hasFrame_9 rfl rfl) ?_
  refine mb_l_cons (ms_iconst dX6_hasFrame_12 rfl rfl) ?_
  refine mb_l_cons (ms_goto dX6_hasFrame_13 rfl) ?_
  refine mb_l_cons (ms_iconst dX6_hasFrame_16 rfl rfl) ?_
  refine mb_l_cons (ms_zret dX6_hasFrame_17 rfl) ?_
  exact mb_l_nil
theorem mr_X6_frameAt (hX : mb_Fx l D cT s0 args0) : ∀ pc i, mb_look mc_X6_frameAt pc = some i → mb_Snd l D cT s0 mb_mt RX6 "frameAt" cX6_frameAt 2 (some (.object "PegbarBarn$Frame")) [] pc i := by
  unfold mc_X6_frameAt
  refine mb_l_cons (ms_aload_n dX6_frameAt_0 rfl rfl) ?_
  refine mb_l_cons (ms_iload_n dX6_frameAt_1 rfl rfl) ?_
  refine mb_l_cons (ms_callv (ci := 6) hX (y := 33) (y0 := yX6_hasFrame) (bytes := cX6_hasFrame) rfl (C := RX6) (T := TX6) (N := 4) rfl mq_X6_30_X6_hasFrame mw_340 mw_341 mw_342 dX6_frameAt_2 (fun _ _ _ h => nomatch h) rfl) ?_
  refine mb_l_cons (ms_if_eq dX6_frameAt_5 rfl rfl) ?_
  refine mb_l_cons (ms_aload_n dX6_frameAt_8 rfl rfl) ?_
  refine mb_l_cons (ms_getf (ci := 6) (kf := 0) hX (C := RX6) (T := TX6) (N := 4) rfl (by decide) mu_X6 (Or.inl mw_312) dX6_frameAt_9 rfl) ?_
  refine mb_l_cons (ms_iload_n dX6_frameAt_12 rfl rfl) ?_
  refine mb_l_cons (ms_aald hX dX6_frameAt_13 rfl) ?_
  refine mb_l_cons (ms_goto dX6_frameAt_14 rfl) ?_
  refine mb_l_cons (ms_null dX6_frameAt_17 rfl) ?_
  refine mb_l_cons (ms_aret dX6_frameAt_18 rfl (Or.inl ⟨_, rfl⟩)) ?_
  exact mb_l_nil
theorem mr_X6_castingOf (hX : mb_Fx l D cT s0 args0) : ∀ pc i, mb_look mc_X6_castingOf pc = some i → mb_Snd l D cT s0 mb_mt RX6 "castingOf" cX6_castingOf 2 (some (.object "PegbarBarn$Casting")) [] pc i := by
  unfold mc_X6_castingOf
  refine mb_l_cons (ms_iload_n dX6_castingOf_0 rfl rfl) ?_
  refine mb_l_cons (ms_if_lt dX6_castingOf_1 rfl rfl) ?_
  refine mb_l_cons (ms_iload_n dX6_castingOf_4 rfl rfl) ?_
  refine mb_l_cons (ms_bipush dX6_castingOf_5 rfl rfl) ?_
  refine mb_l_cons (ms_icmp_lt dX6_castingOf_7 rfl rfl) ?_
  refine mb_l_cons (ms_null dX6_castingOf_10 rfl) ?_
  refine mb_l_cons (ms_goto dX6_castingOf_11 rfl) ?_
  refine mb_l_cons (ms_aload_n dX6_castingOf_14 rfl rfl) ?_
  refine mb_l_cons (ms_getf (ci := 6) (kf := 1) hX (C := RX6) (T := TX6) (N := 4) rfl (by decide) mu_X6 (Or.inl mw_313) dX6_castingOf_15 rfl) ?_
  refine mb_l_cons (ms_iload_n dX6_castingOf_18 rfl rfl) ?_
  refine mb_l_cons (ms_aald hX dX6_castingOf_19 rfl) ?_
  refine mb_l_cons (ms_aret dX6_castingOf_20 rfl (Or.inl ⟨_, rfl⟩)) ?_
  exact mb_l_nil
theorem mr_X6_setCasting (hX : mb_Fx l D cT s0 args0) : ∀ pc i, mb_look mc_X6_setCasting pc = some i → mb_Snd l D cT s0 mb_mt RX6 "setCasting" cX6_setCasting 6 none [] pc i := by
  unfold mc_X6_setCasting
  refine mb_l_cons (ms_iload_n dX6_setCasting_0 rfl rfl) ?_
  refine mb_l_cons (ms_if_lt dX6_setCasting_1 rfl rfl) ?_
  refine mb_l_cons (ms_iload_n dX6_setCasting_4 rfl rfl) ?_
  refine mb_l_cons (ms_bipush dX6_setCasting_5 rfl rfl) ?_
  refine mb_l_cons (ms_icmp_lt dX6_setCasting_7 rfl rfl) ?_
  refine mb_l_cons (ms_vret dX6_setCasting_10 rfl) ?_
  refine mb_l_cons (ms_aload_n dX6_setCasting_11 rfl rfl) ?_
  refine mb_l_cons (ms_getf (ci := 6) (kf := 1) hX (C := RX6) (T := TX6) (N := 4) rfl (by decide) mu_X6 (Or.inl mw_313) dX6_setCasting_12 rfl) ?_
  refine mb_l_cons (ms_iload_n dX6_setCasting_15 rfl rfl) ?_
  refine mb_l_cons (ms_aald hX dX6_setCasting_16 rfl) ?_
  refine mb_l_cons (ms_astore dX6_setCasting_17 rfl) ?_
  refine mb_l_cons (ms_aload dX6_setCasting_19 rfl) ?_
  refine mb_l_cons (ms_ifnonnull dX6_setCasting_21 rfl rfl) ?_
  refine mb_l_cons (ms_new (ci := 1) hX (C := RX1) (T := TX1) (N := 3) rfl mu_X1 tyX1 tyX1_ok mf_X1 rfl mw_294 mw_566 mw_35 dX6_setCasting_24 rfl) ?_
  refine mb_l_cons (ms_dup dX6_setCasting_27 rfl) ?_
  refine mb_l_cons (ms_callin hX (y := 4) (y0 := yX1_init) (bytes := cX1_init) rfl mq_X6_34_X1_init rfl mw_567 mw_568 dX6_setCasting_28 rfl) ?_
  refine mb_l_cons (ms_astore dX6_setCasting_31 rfl) ?_
  refine mb_l_cons (ms_aload_n dX6_setCasting_33 rfl rfl) ?_
  refine mb_l_cons (ms_getf (ci := 6) (kf := 1) hX (C := RX6) (T := TX6) (N := 4) rfl (by decide) mu_X6 (Or.inl mw_313) dX6_setCasting_34 rfl) ?_
  refine mb_l_cons (ms_iload_n dX6_setCasting_37 rfl rfl) ?_
  refine mb_l_cons (ms_aload dX6_setCasting_38 rfl) ?_
  refine mb_l_cons (ms_aast (ci := 1) hX (C := RX1) (T := TX1) (N := 3) rfl rfl dX6_setCasting_40 rfl) ?_
  refine mb_l_cons (ms_aload_n dX6_setCasting_41 rfl rfl) ?_
  refine mb_l_cons (ms_dup dX6_setCasting_42 rfl) ?_
  refine mb_l_cons (ms_getf (ci := 6) (kf := 3) hX (C := RX6) (T := TX6) (N := 4) rfl (by decide) mu_X6 (Or.inl mw_316) dX6_setCasting_43 rfl) ?_
  refine mb_l_cons (ms_iconst dX6_setCasting_46 rfl rfl) ?_
  refine mb_l_cons (ms_iadd dX6_setCasting_47 rfl) ?_
  refine mb_l_cons (ms_putf (ci := 6) (kf := 3) (z := 0) hX (C := RX6) (T := TX6) (N := 4) rfl (by decide) mu_X6 tyX6 tyX6_ok nmX6 (Or.inl ⟨rfl, rfl⟩) rfl (Or.inl mw_316) dX6_setCasting_48 rfl) ?_
  refine mb_l_cons (ms_aload dX6_setCasting_51 rfl) ?_
  refine mb_l_cons (ms_iload_n dX6_setCasting_53 rfl rfl) ?_
  refine mb_l_cons (ms_putf (ci := 1) (kf := 0) (z := 0) hX (C := RX1) (T := TX1) (N := 3) rfl (by decide) mu_X1 tyX1 tyX1_ok nmX1 (Or.inl ⟨rfl, rfl⟩) rfl (Or.inr ⟨_, mw_571⟩) dX6_setCasting_54 rfl) ?_
  refine mb_l_cons (ms_aload dX6_setCasting_57 rfl) ?_
  refine mb_l_cons (ms_iload_n dX6_setCasting_59 rfl rfl) ?_
  refine mb_l_cons (ms_putf (ci := 1) (kf := 1) (z := 0) hX (C := RX1) (T := TX1) (N := 3) rfl (by decide) mu_X1 tyX1 tyX1_ok nmX1 (Or.inl ⟨rfl, rfl⟩) rfl (Or.inr ⟨_, mw_574⟩) dX6_setCasting_60 rfl) ?_
  refine mb_l_cons (ms_aload dX6_setCasting_63 rfl) ?_
  refine mb_l_cons (ms_iload dX6_setCasting_65 rfl) ?_
  refine mb_l_cons (ms_putf (ci := 1) (kf := 2) (z := 0) hX (C := RX1) (T := TX1) (N := 3) rfl (by decide) mu_X1 tyX1 tyX1_ok nmX1 (Or.inl ⟨rfl, rfl⟩) rfl (Or.inr ⟨_, mw_576⟩) dX6_setCasting_67 rfl) ?_
  refine mb_l_cons (ms_vret dX6_setCasting_70 rfl) ?_
  exact mb_l_nil
theorem mr_X6_removeFrames (hX : mb_Fx l D cT s0 args0) : ∀ pc i, mb_look mc_X6_removeFrames pc = some i → mb_Snd l D cT s0 mb_mt RX6 "removeFrames" cX6_removeFrames 4 none [] pc i := by
  unfold mc_X6_removeFrames
  refine mb_l_cons (ms_aload_n dX6_removeFrames_0 rfl rfl) ?_
  refine mb_l_cons (ms_iload_n dX6_removeFrames_1 rfl rfl) ?_
  refine mb_l_cons (ms_callv (ci := 6) hX (y := 33) (y0 := yX6_hasFrame) (bytes := cX6_hasFrame) rfl (C := RX6) (T := TX6) (N := 4) rfl mq_X6_30_X6_hasFrame mw_340 mw_341 mw_342 dX6_removeFrames_2 (fun _ _ _ h => nomatch h) rfl) ?_
  refine mb_l_cons (ms_if_eq dX6_removeFrames_5 rfl rfl) ?_
  refine mb_l_cons (ms_iload_n dX6_removeFrames_8 rfl rfl) ?_
  refine mb_l_cons (ms_iconst dX6_removeFrames_9 rfl rfl) ?_
  refine mb_l_cons (ms_icmp_lt dX6_removeFrames_10 rfl rfl) ?_
  refine mb_l_cons (ms_iload_n dX6_removeFrames_13 rfl rfl) ?_
  refine mb_l_cons (ms_aload_n dX6_removeFrames_14 rfl rfl) ?_
  refine mb_l_cons (ms_getf (ci := 6) (kf := 2) hX (C := RX6) (T := TX6) (N := 4) rfl (by decide) mu_X6 (Or.inl mw_314) dX6_removeFrames_15 rfl) ?_
  refine mb_l_cons (ms_iload_n dX6_removeFrames_18 rfl rfl) ?_
  refine mb_l_cons (ms_isub dX6_removeFrames_19 rfl) ?_
  refine mb_l_cons (ms_icmp_le dX6_removeFrames_20 rfl rfl) ?_
  refine mb_l_cons (ms_vret dX6_removeFrames_23 rfl) ?_
  refine mb_l_cons (ms_iload_n dX6_removeFrames_24 rfl rfl) ?_
  refine mb_l_cons (ms_istore_n dX6_removeFrames_25 rfl rfl) ?_
  refine mb_l_cons (ms_iload_n dX6_removeFrames_26 rfl rfl) ?_
  refine mb_l_cons (ms_iload_n dX6_removeFrames_27 rfl rfl) ?_
  refine mb_l_cons (ms_iadd dX6_removeFrames_28 rfl) ?_
  refine mb_l_cons (ms_aload_n dX6_removeFrames_29 rfl rfl) ?_
  refine mb_l_cons (ms_getf (ci := 6) (kf := 2) hX (C := RX6) (T := TX6) (N := 4) rfl (by decide) mu_X6 (Or.inl mw_314) dX6_removeFrames_30 rfl) ?_
  refine mb_l_cons (ms_icmp_ge dX6_removeFrames_33 rfl rfl) ?_
  refine mb_l_cons (ms_aload_n dX6_removeFrames_36 rfl rfl) ?_
  refine mb_l_cons (ms_getf (ci := 6) (kf := 0) hX (C := RX6) (T := TX6) (N := 4) rfl (by decide) mu_X6 (Or.inl mw_312) dX6_removeFrames_37 rfl) ?_
  refine mb_l_cons (ms_iload_n dX6_removeFrames_40 rfl rfl) ?_
  refine mb_l_cons (ms_aload_n dX6_removeFrames_41 rfl rfl) ?_
  refine mb_l_cons (ms_getf (ci := 6) (kf := 0) hX (C := RX6) (T := TX6) (N := 4) rfl (by decide) mu_X6 (Or.inl mw_312) dX6_removeFrames_42 rfl) ?_
  refine mb_l_cons (ms_iload_n dX6_removeFrames_45 rfl rfl) ?_
  refine mb_l_cons (ms_iload_n dX6_removeFrames_46 rfl rfl) ?_
  refine mb_l_cons (ms_iadd dX6_removeFrames_47 rfl) ?_
  refine mb_l_cons (ms_aald hX dX6_removeFrames_48 rfl) ?_
  refine mb_l_cons (ms_aast (ci := 3) hX (C := RX3) (T := TX3) (N := 3) rfl rfl dX6_removeFrames_49 rfl) ?_
  refine mb_l_cons (ms_iinc dX6_removeFrames_50 rfl rfl) ?_
  refine mb_l_cons (ms_goto dX6_removeFrames_53 rfl) ?_
  refine mb_l_cons (ms_aload_n dX6_removeFrames_56 rfl rfl) ?_
  refine mb_l_cons (ms_dup dX6_removeFrames_57 rfl) ?_
  refine mb_l_cons (ms_getf (ci := 6) (kf := 2) hX (C := RX6) (T := TX6) (N := 4) rfl (by decide) mu_X6 (Or.inl mw_314) dX6_removeFrames_58 rfl) ?_
  refine mb_l_cons (ms_iload_n dX6_removeFrames_61 rfl rfl) ?_
  refine mb_l_cons (ms_isub dX6_removeFrames_62 rfl) ?_
  refine mb_l_cons (ms_putf (ci := 6) (kf := 2) (z := 0) hX (C := RX6) (T := TX6) (N := 4) rfl (by decide) mu_X6 tyX6 tyX6_ok nmX6 (Or.inl ⟨rfl, rfl⟩) rfl (Or.inl mw_314) dX6_removeFrames_63 rfl) ?_
  refine mb_l_cons (ms_vret dX6_removeFrames_66 rfl) ?_
  exact mb_l_nil
theorem mr_X6_follows (hX : mb_Fx l D cT s0 args0) : ∀ pc i, mb_look mc_X6_follows pc = some i → mb_Snd l D cT s0 mb_mt RX6 "follows" cX6_follows 3 (some .boolean) [] pc i := by
  unfold mc_X6_follows
  refine mb_l_cons (ms_aload_n dX6_follows_0 rfl rfl) ?_
  refine mb_l_cons (ms_iload_n dX6_follows_1 rfl rfl) ?_
  refine mb_l_cons (ms_callv (ci := 6) hX (y := 35) (y0 := yX6_castingOf) (bytes := cX6_castingOf) rfl (C := RX6) (T := TX6) (N := 4) rfl mq_X6_47_X6_castingOf mw_401 mw_353 mw_354 dX6_follows_2 (fun _ _ _ h => nomatch h) rfl) ?_
  refine mb_l_cons (ms_astore_n dX6_follows_5 rfl rfl) ?_
  refine mb_l_cons (ms_aload_n dX6_follows_6 rfl rfl) ?_
  refine mb_l_cons (ms_ifnull dX6_follows_7 rfl rfl) ?_
  refine mb_l_cons (ms_aload_n dX6_follows_10 rfl rfl) ?_
  refine mb_l_cons (ms_getf (ci := 1) (kf := 0) hX (C := RX1) (T := TX1) (N := 3) rfl (by decide) mu_X1 (Or.inr ⟨_, mw_571⟩) dX6_follows_11 rfl) ?_
  refine mb_l_cons (ms_iconst dX6_follows_14 rfl rfl) ?_
  refine mb_l_cons (ms_icmp_ne dX6_follows_15 rfl rfl) ?_
  refine mb_l_cons (ms_iconst dX6_follows_18 rfl rfl) ?_
  refine mb_l_cons (ms_goto dX6_follows_19 rfl) ?_
  refine mb_l_cons (ms_iconst dX6_follows_22 rfl rfl) ?_
  refine mb_l_cons (ms_zret dX6_follows_23 rfl) ?_
  exact mb_l_nil
theorem mr_X6_keepsUnlikeVersions (hX : mb_Fx l D cT s0 args0) : ∀ pc i, mb_look mc_X6_keepsUnlikeVersions pc = some i → mb_Snd l D cT s0 mb_mt RX6 "keepsUnlikeVersions" cX6_keepsUnlikeVersions 6 (some .boolean) [] pc i := by
  unfold mc_X6_keepsUnlikeVersions
  refine mb_l_cons (ms_iconst dX6_keepsUnlikeVersions_0 rfl rfl) ?_
  refine mb_l_cons (ms_istore_n dX6_keepsUnlikeVersions_1 rfl rfl) ?_
  refine mb_l_cons (ms_iconst dX6_keepsUnlikeVersions_2 rfl rfl) ?_
  refine mb_l_cons (ms_istore_n dX6_keepsUnlikeVersions_3 rfl rfl) ?_
  refine mb_l_cons (ms_iload_n dX6_keepsUnlikeVersions_4 rfl rfl) ?_
  refine mb_l_cons (ms_aload_n dX6_keepsUnlikeVersions_5 rfl rfl) ?_
  refine mb_l_cons (ms_getf (ci := 6) (kf := 2) hX (C := RX6) (T := TX6) (N := 4) rfl (by decide) mu_X6 (Or.inl mw_314) dX6_keepsUnlikeVersions_6 rfl) ?_
  refine mb_l_cons (ms_icmp_ge dX6_keepsUnlikeVersions_9 rfl rfl) ?_
  refine mb_l_cons (ms_aload_n dX6_keepsUnlikeVersions_12 rfl rfl) ?_
  refine mb_l_cons (ms_iload_n dX6_keepsUnlikeVersions_13 rfl rfl) ?_
  refine mb_l_cons (ms_callv (ci := 6) hX (y := 34) (y0 := yX6_frameAt) (bytes := cX6_frameAt) rfl (C := RX6) (T := TX6) (N := 4) rfl mq_X6_51_X6_frameAt mw_406 mw_337 mw_338 dX6_keepsUnlikeVersions_14 (fun _ _ _ h => nomatch h) rfl) ?_
  refine mb_l_cons (ms_astore dX6_keepsUnlikeVersions_17 rfl) ?_
  refine mb_l_cons (ms_aload dX6_keepsUnlikeVersions_19 rfl) ?_
  refine mb_l_cons (ms_ifnonnull dX6_keepsUnlikeVersions_21 rfl rfl) ?_
  refine mb_l_cons (ms_iconst dX6_keepsUnlikeVersions_24 rfl rfl) ?_
  refine mb_l_cons (ms_goto dX6_keepsUnlikeVersions_25 rfl) ?_
  refine mb_l_cons (ms_aload dX6_keepsUnlikeVersions_28 rfl) ?_
  refine mb_l_cons (ms_iload_n dX6_keepsUnlikeVersions_30 rfl rfl) ?_
  refine mb_l_cons (ms_callv (ci := 3) hX (y := 17) (y0 := yX3_versionOf) (bytes := cX3_versionOf) rfl (C := RX3) (T := TX3) (N := 3) rfl mq_X6_55_X3_versionOf mw_407 mw_361 mw_362 dX6_keepsUnlikeVersions_31 (fun _ _ _ h => nomatch h) rfl) ?_
  refine mb_l_cons (ms_istore dX6_keepsUnlikeVersions_34 rfl) ?_
  refine mb_l_cons (ms_iload_n dX6_keepsUnlikeVersions_36 rfl rfl) ?_
  refine mb_l_cons (ms_iconst dX6_keepsUnlikeVersions_37 rfl rfl) ?_
  refine mb_l_cons (ms_icmp_ne dX6_keepsUnlikeVersions_38 rfl rfl) ?_
  refine mb_l_cons (ms_iload dX6_keepsUnlikeVersions_41 rfl) ?_
  refine mb_l_cons (ms_istore_n dX6_keepsUnlikeVersions_43 rfl rfl) ?_
  refine mb_l_cons (ms_goto dX6_keepsUnlikeVersions_44 rfl) ?_
  refine mb_l_cons (ms_iload dX6_keepsUnlikeVersions_47 rfl) ?_
  refine mb_l_cons (ms_iconst dX6_keepsUnlikeVersions_49 rfl rfl) ?_
  refine mb_l_cons (ms_icmp_eq dX6_keepsUnlikeVersions_50 rfl rfl) ?_
  refine mb_l_cons (ms_iload dX6_keepsUnlikeVersions_53 rfl) ?_
  refine mb_l_cons (ms_iload_n dX6_keepsUnlikeVersions_55 rfl rfl) ?_
  refine mb_l_cons (ms_icmp_eq dX6_keepsUnlikeVersions_56 rfl rfl) ?_
  refine mb_l_cons (ms_iconst dX6_keepsUnlikeVersions_59 rfl rfl) ?_
  refine mb_l_cons (ms_zret dX6_keepsUnlikeVersions_60 rfl) ?_
  refine mb_l_cons (ms_iinc dX6_keepsUnlikeVersions_61 rfl rfl) ?_
  refine mb_l_cons (ms_goto dX6_keepsUnlikeVersions_64 rfl) ?_
  refine mb_l_cons (ms_iconst dX6_keepsUnlikeVersions_67 rfl rfl) ?_
  refine mb_l_cons (ms_zret dX6_keepsUnlikeVersions_68 rfl) ?_
  exact mb_l_nil
theorem mr_J9_floorDiv_7cf53 (hX : mb_Fx l D cT s0 args0) : ∀ pc i, mb_look mc_J9_floorDiv_7cf53 pc = some i → mb_Snd l D cT s0 mb_mt RJ9 "floorDiv" cJ9_floorDiv_7cf53 3 (some .int) [] pc i := by
  unfold mc_J9_floorDiv_7cf53
  refine mb_l_cons (ms_iload_n dJ9_floorDiv_7cf53_0 rfl rfl) ?_
  refine mb_l_cons (ms_iload_n dJ9_floorDiv_7cf53_1 rfl rfl) ?_
  refine mb_l_cons (ms_idiv dJ9_floorDiv_7cf53_2 rfl) ?_
  refine mb_l_cons (ms_istore_n dJ9_floorDiv_7cf53_3 rfl rfl) ?_
  refine mb_l_cons (ms_iload_n dJ9_floorDiv_7cf53_4 rfl rfl) ?_
  refine mb_l_cons (ms_iload_n dJ9_floorDiv_7cf53_5 rfl rfl) ?_
  refine mb_l_cons (ms_ixor dJ9_floorDiv_7cf53_6 rfl) ?_
  refine mb_l_cons (ms_if_ge dJ9_floorDiv_7cf53_7 rfl rfl) ?_
  refine mb_l_cons (ms_iload_n dJ9_floorDiv_7cf53_10 rfl rfl) ?_
  refine mb_l_cons (ms_iload_n dJ9_floorDiv_7cf53_11 rfl rfl) ?_
  refine mb_l_cons (ms_imul dJ9_floorDiv_7cf53_12 rfl) ?_
  refine mb_l_cons (ms_iload_n dJ9_floorDiv_7cf53_13 rfl rfl) ?_
  refine mb_l_cons (ms_icmp_eq dJ9_floorDiv_7cf53_14 rfl rfl) ?_
  refine mb_l_cons (ms_iload_n dJ9_floorDiv_7cf53_17 rfl rfl) ?_
  refine mb_l_cons (ms_iconst dJ9_floorDiv_7cf53_18 rfl rfl) ?_
  refine mb_l_cons (ms_isub dJ9_floorDiv_7cf53_19 rfl) ?_
  refine mb_l_cons (ms_iret dJ9_floorDiv_7cf53_20 rfl) ?_
  refine mb_l_cons (ms_iload_n dJ9_floorDiv_7cf53_21 rfl rfl) ?_
  refine mb_l_cons (ms_iret dJ9_floorDiv_7cf53_22 rfl) ?_
  exact mb_l_nil
end MBX
