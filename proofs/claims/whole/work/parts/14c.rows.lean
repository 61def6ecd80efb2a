/-! every row of every method is sound -/
section MBX
variable {l : Launch} {D : va_G} {cT : Nat → ClassId} {s0 : State} {args0 : Array Value}
theorem mr_X8_init (hX : mb_Fx l D cT s0 args0) : ∀ pc i, mb_look mc_X8_init pc = some i → mb_Snd l D cT s0 mb_mt RX8 "<init>" cX8_init 1 none [] pc i := by
  unfold mc_X8_init
  refine mb_l_cons (ms_aload_n dX8_init_0 rfl rfl) ?_
  refine mb_l_cons (ms_oinit hX dX8_init_1 rfl mw_752 mw_73 mw_objcode) ?_
  refine mb_l_cons (ms_aload_n dX8_init_4 rfl rfl) ?_
  refine mb_l_cons (ms_bipush dX8_init_5 rfl rfl) ?_
  refine mb_l_cons (ms_newi hX mw_206 dX8_init_7 rfl) ?_
  refine mb_l_cons (ms_putF (ci := 8) (kf := 2) (z := 2) hX (C := RX8) (T := TX8) (N := 26) rfl (by decide) mu_X8 tyX8 tyX8_ok nmX8 (Or.inr (Or.inr ⟨rfl, Or.inr ⟨_, rfl⟩⟩)) rfl rfl rfl mw_755 dX8_init_9 rfl) ?_
  refine mb_l_cons (ms_aload_n dX8_init_12 rfl rfl) ?_
  refine mb_l_cons (ms_bipush dX8_init_13 rfl rfl) ?_
  refine mb_l_cons (ms_newi hX mw_206 dX8_init_15 rfl) ?_
  refine mb_l_cons (ms_putF (ci := 8) (kf := 3) (z := 2) hX (C := RX8) (T := TX8) (N := 26) rfl (by decide) mu_X8 tyX8 tyX8_ok nmX8 (Or.inr (Or.inr ⟨rfl, Or.inr ⟨_, rfl⟩⟩)) rfl rfl rfl mw_756 dX8_init_17 rfl) ?_
  refine mb_l_cons (ms_aload_n dX8_init_20 rfl rfl) ?_
  refine mb_l_cons (ms_sipush dX8_init_21 rfl rfl) ?_
  refine mb_l_cons (ms_newi hX mw_206 dX8_init_24 rfl) ?_
  refine mb_l_cons (ms_putF (ci := 8) (kf := 4) (z := 2) hX (C := RX8) (T := TX8) (N := 26) rfl (by decide) mu_X8 tyX8 tyX8_ok nmX8 (Or.inr (Or.inr ⟨rfl, Or.inr ⟨_, rfl⟩⟩)) rfl rfl rfl mw_757 dX8_init_26 rfl) ?_
  refine mb_l_cons (ms_aload_n dX8_init_29 rfl rfl) ?_
  refine mb_l_cons (ms_sipush dX8_init_30 rfl rfl) ?_
  refine mb_l_cons (ms_newi hX mw_206 dX8_init_33 rfl) ?_
  refine mb_l_cons (ms_putF (ci := 8) (kf := 5) (z := 2) hX (C := RX8) (T := TX8) (N := 26) rfl (by decide) mu_X8 tyX8 tyX8_ok nmX8 (Or.inr (Or.inr ⟨rfl, Or.inr ⟨_, rfl⟩⟩)) rfl rfl rfl mw_758 dX8_init_35 rfl) ?_
  refine mb_l_cons (ms_aload_n dX8_init_38 rfl rfl) ?_
  refine mb_l_cons (ms_sipush dX8_init_39 rfl rfl) ?_
  refine mb_l_cons (ms_newi hX mw_206 dX8_init_42 rfl) ?_
  refine mb_l_cons (ms_putF (ci := 8) (kf := 6) (z := 2) hX (C := RX8) (T := TX8) (N := 26) rfl (by decide) mu_X8 tyX8 tyX8_ok nmX8 (Or.inr (Or.inr ⟨rfl, Or.inr ⟨_, rfl⟩⟩)) rfl rfl rfl mw_759 dX8_init_44 rfl) ?_
  refine mb_l_cons (ms_aload_n dX8_init_47 rfl rfl) ?_
  refine mb_l_cons (ms_sipush dX8_init_48 rfl rfl) ?_
  refine mb_l_cons (ms_newi hX mw_206 dX8_init_51 rfl) ?_
  refine mb_l_cons (ms_putF (ci := 8) (kf := 7) (z := 2) hX (C := RX8) (T := TX8) (N := 26) rfl (by decide) mu_X8 tyX8 tyX8_ok nmX8 (Or.inr (Or.inr ⟨rfl, Or.inr ⟨_, rfl⟩⟩)) rfl rfl rfl mw_760 dX8_init_53 rfl) ?_
  refine mb_l_cons (ms_aload_n dX8_init_56 rfl rfl) ?_
  refine mb_l_cons (ms_sipush dX8_init_57 rfl rfl) ?_
  refine mb_l_cons (ms_newi hX mw_206 dX8_init_60 rfl) ?_
  refine mb_l_cons (ms_putF (ci := 8) (kf := 8) (z := 2) hX (C := RX8) (T := TX8) (N := 26) rfl (by decide) mu_X8 tyX8 tyX8_ok nmX8 (Or.inr (Or.inr ⟨rfl, Or.inr ⟨_, rfl⟩⟩)) rfl rfl rfl mw_761 dX8_init_62 rfl) ?_
  refine mb_l_cons (ms_aload_n dX8_init_65 rfl rfl) ?_
  refine mb_l_cons (ms_bipush dX8_init_66 rfl rfl) ?_
  refine mb_l_cons (ms_newi hX mw_206 dX8_init_68 rfl) ?_
  refine mb_l_cons (ms_putF (ci := 8) (kf := 10) (z := 2) hX (C := RX8) (T := TX8) (N := 26) rfl (by decide) mu_X8 tyX8 tyX8_ok nmX8 (Or.inr (Or.inr ⟨rfl, Or.inr ⟨_, rfl⟩⟩)) rfl rfl rfl mw_763 dX8_init_70 rfl) ?_
  refine mb_l_cons (ms_aload_n dX8_init_73 rfl rfl) ?_
  refine mb_l_cons (ms_bipush dX8_init_74 rfl rfl) ?_
  refine mb_l_cons (ms_newz hX mw_832 dX8_init_76 rfl) ?_
  refine mb_l_cons (ms_putF (ci := 8) (kf := 11) (z := 2) hX (C := RX8) (T := TX8) (N := 26) rfl (by decide) mu_X8 tyX8 tyX8_ok nmX8 (Or.inr (Or.inr ⟨rfl, Or.inr ⟨_, rfl⟩⟩)) rfl rfl rfl mw_764 dX8_init_78 rfl) ?_
  refine mb_l_cons (ms_aload_n dX8_init_81 rfl rfl) ?_
  refine mb_l_cons (ms_bipush dX8_init_82 rfl rfl) ?_
  refine mb_l_cons (ms_newi hX mw_206 dX8_init_84 rfl) ?_
  refine mb_l_cons (ms_putF (ci := 8) (kf := 12) (z := 2) hX (C := RX8) (T := TX8) (N := 26) rfl (by decide) mu_X8 tyX8 tyX8_ok nmX8 (Or.inr (Or.inr ⟨rfl, Or.inr ⟨_, rfl⟩⟩)) rfl rfl rfl mw_765 dX8_init_86 rfl) ?_
  refine mb_l_cons (ms_aload_n dX8_init_89 rfl rfl) ?_
  refine mb_l_cons (ms_bipush dX8_init_90 rfl rfl) ?_
  refine mb_l_cons (ms_newi hX mw_206 dX8_init_92 rfl) ?_
  refine mb_l_cons (ms_putF (ci := 8) (kf := 13) (z := 2) hX (C := RX8) (T := TX8) (N := 26) rfl (by decide) mu_X8 tyX8 tyX8_ok nmX8 (Or.inr (Or.inr ⟨rfl, Or.inr ⟨_, rfl⟩⟩)) rfl rfl rfl mw_766 dX8_init_94 rfl) ?_
  refine mb_l_cons (ms_aload_n dX8_init_97 rfl rfl) ?_
  refine mb_l_cons (ms_bipush dX8_init_98 rfl rfl) ?_
  refine mb_l_cons (ms_newi hX mw_206 dX8_init_100 rfl) ?_
  refine mb_l_cons (ms_putF (ci := 8) (kf := 14) (z := 2) hX (C := RX8) (T := TX8) (N := 26) rfl (by decide) mu_X8 tyX8 tyX8_ok nmX8 (Or.inr (Or.inr ⟨rfl, Or.inr ⟨_, rfl⟩⟩)) rfl rfl rfl mw_767 dX8_init_102 rfl) ?_
  refine mb_l_cons (ms_aload_n dX8_init_105 rfl rfl) ?_
  refine mb_l_cons (ms_sipush dX8_init_106 rfl rfl) ?_
  refine mb_l_cons (ms_newi hX mw_206 dX8_init_109 rfl) ?_
  refine mb_l_cons (ms_putF (ci := 8) (kf := 15) (z := 2) hX (C := RX8) (T := TX8) (N := 26) rfl (by decide) mu_X8 tyX8 tyX8_ok nmX8 (Or.inr (Or.inr ⟨rfl, Or.inr ⟨_, rfl⟩⟩)) rfl rfl rfl mw_768 dX8_init_111 rfl) ?_
  refine mb_l_cons (ms_aload_n dX8_init_114 rfl rfl) ?_
  refine mb_l_cons (ms_sipush dX8_init_115 rfl rfl) ?_
  refine mb_l_cons (ms_newi hX mw_206 dX8_init_118 rfl) ?_
  refine mb_l_cons (ms_putF (ci := 8) (kf := 16) (z := 2) hX (C := RX8) (T := TX8) (N := 26) rfl (by decide) mu_X8 tyX8 tyX8_ok nmX8 (Or.inr (Or.inr ⟨rfl, Or.inr ⟨_, rfl⟩⟩)) rfl rfl rfl mw_769 dX8_init_120 rfl) ?_
  refine mb_l_cons (ms_aload_n dX8_init_123 rfl rfl) ?_
  refine mb_l_cons (ms_sipush dX8_init_124 rfl rfl) ?_
  refine mb_l_cons (ms_newi hX mw_206 dX8_init_127 rfl) ?_
  refine mb_l_cons (ms_putF (ci := 8) (kf := 17) (z := 2) hX (C := RX8) (T := TX8) (N := 26) rfl (by decide) mu_X8 tyX8 tyX8_ok nmX8 (Or.inr (Or.inr ⟨rfl, Or.inr ⟨_, rfl⟩⟩)) rfl rfl rfl mw_770 dX8_init_129 rfl) ?_
  refine mb_l_cons (ms_aload_n dX8_init_132 rfl rfl) ?_
  refine mb_l_cons (ms_sipush dX8_init_133 rfl rfl) ?_
  refine mb_l_cons (ms_newi hX mw_206 dX8_init_136 rfl) ?_
  refine mb_l_cons (ms_putF (ci := 8) (kf := 18) (z := 2) hX (C := RX8) (T := TX8) (N := 26) rfl (by decide) mu_X8 tyX8 tyX8_ok nmX8 (Or.inr (Or.inr ⟨rfl, Or.inr ⟨_, rfl⟩⟩)) rfl rfl rfl mw_771 dX8_init_138 rfl) ?_
  refine mb_l_cons (ms_aload_n dX8_init_141 rfl rfl) ?_
  refine mb_l_cons (ms_sipush dX8_init_142 rfl rfl) ?_
  refine mb_l_cons (ms_newi hX mw_206 dX8_init_145 rfl) ?_
  refine mb_l_cons (ms_putF (ci := 8) (kf := 19) (z := 2) hX (C := RX8) (T := TX8) (N := 26) rfl (by decide) mu_X8 tyX8 tyX8_ok nmX8 (Or.inr (Or.inr ⟨rfl, Or.inr ⟨_, rfl⟩⟩)) rfl rfl rfl mw_772 dX8_init_147 rfl) ?_
  refine mb_l_cons (ms_aload_n dX8_init_150 rfl rfl) ?_
  refine mb_l_cons (ms_bipush dX8_init_151 rfl rfl) ?_
  refine mb_l_cons (ms_newi hX mw_206 dX8_init_153 rfl) ?_
  refine mb_l_cons (ms_putF (ci := 8) (kf := 22) (z := 2) hX (C := RX8) (T := TX8) (N := 26) rfl (by decide) mu_X8 tyX8 tyX8_ok nmX8 (Or.inr (Or.inr ⟨rfl, Or.inr ⟨_, rfl⟩⟩)) rfl rfl rfl mw_775 dX8_init_155 rfl) ?_
  refine mb_l_cons (ms_aload_n dX8_init_158 rfl rfl) ?_
  refine mb_l_cons (ms_bipush dX8_init_159 rfl rfl) ?_
  refine mb_l_cons (ms_newi hX mw_206 dX8_init_161 rfl) ?_
  refine mb_l_cons (ms_putF (ci := 8) (kf := 23) (z := 2) hX (C := RX8) (T := TX8) (N := 26) rfl (by decide) mu_X8 tyX8 tyX8_ok nmX8 (Or.inr (Or.inr ⟨rfl, Or.inr ⟨_, rfl⟩⟩)) rfl rfl rfl mw_776 dX8_init_163 rfl) ?_
  refine mb_l_cons (ms_aload_n dX8_init_166 rfl rfl) ?_
  refine mb_l_cons (ms_bipush dX8_init_167 rfl rfl) ?_
  refine mb_l_cons (ms_newz hX mw_832 dX8_init_169 rfl) ?_
  refine mb_l_cons (ms_putF (ci := 8) (kf := 24) (z := 2) hX (C := RX8) (T := TX8) (N := 26) rfl (by decide) mu_X8 tyX8 tyX8_ok nmX8 (Or.inr (Or.inr ⟨rfl, Or.inr ⟨_, rfl⟩⟩)) rfl rfl rfl mw_777 dX8_init_171 rfl) ?_
  refine mb_l_cons (ms_aload_n dX8_init_174 rfl rfl) ?_
  refine mb_l_cons (ms_bipush dX8_init_175 rfl rfl) ?_
  refine mb_l_cons (ms_newi hX mw_206 dX8_init_177 rfl) ?_
  refine mb_l_cons (ms_putF (ci := 8) (kf := 25) (z := 2) hX (C := RX8) (T := TX8) (N := 26) rfl (by decide) mu_X8 tyX8 tyX8_ok nmX8 (Or.inr (Or.inr ⟨rfl, Or.inr ⟨_, rfl⟩⟩)) rfl rfl rfl mw_778 dX8_init_179 rfl) ?_
  refine mb_l_cons (ms_aload_n dX8_init_182 rfl rfl) ?_
  refine mb_l_cons (ms_iconst dX8_init_183 rfl rfl) ?_
  refine mb_l_cons (ms_putf (ci := 8) (kf := 1) (z := 0) hX (C := RX8) (T := TX8) (N := 26) rfl (by decide) mu_X8 tyX8 tyX8_ok nmX8 (Or.inl ⟨rfl, rfl⟩) rfl (Or.inl mw_754) dX8_init_184 rfl) ?_
  refine mb_l_cons (ms_vret dX8_init_187 rfl) ?_
  exact mb_l_nil
theorem mr_X8_thrown (hX : mb_Fx l D cT s0 args0) : ∀ pc i, mb_look mc_X8_thrown pc = some i → mb_Snd l D cT s0 mb_mt RX8 "thrown" cX8_thrown 1 (some .int) [] pc i := by
  unfold mc_X8_thrown
  refine mb_l_cons (ms_aload_n dX8_thrown_0 rfl rfl) ?_
  refine mb_l_cons (ms_getf (ci := 8) (kf := 0) hX (C := RX8) (T := TX8) (N := 26) rfl (by decide) mu_X8 (Or.inl mw_753) dX8_thrown_1 rfl) ?_
  refine mb_l_cons (ms_iret dX8_thrown_4 rfl) ?_
  exact mb_l_nil
theorem mr_X8_holds (hX : mb_Fx l D cT s0 args0) : ∀ pc i, mb_look mc_X8_holds pc = some i → mb_Snd l D cT s0 mb_mt RX8 "holds" cX8_holds 2 (some .boolean) [] pc i := by
  unfold mc_X8_holds
  refine mb_l_cons (ms_aload_n dX8_holds_0 rfl rfl) ?_
  refine mb_l_cons (ms_iload_n dX8_holds_1 rfl rfl) ?_
  refine mb_l_cons (ms_putf (ci := 8) (kf := 0) (z := 0) hX (C := RX8) (T := TX8) (N := 26) rfl (by decide) mu_X8 tyX8 tyX8_ok nmX8 (Or.inl ⟨rfl, rfl⟩) rfl (Or.inl mw_753) dX8_holds_2 rfl) ?_
  refine mb_l_cons (ms_iload_n dX8_holds_5 rfl rfl) ?_
  refine mb_l_cons (ms_if_ne dX8_holds_6 rfl rfl) ?_
  refine mb_l_cons (ms_iconst dX8_holds_9 rfl rfl) ?_
  refine mb_l_cons (ms_goto dX8_holds_10 rfl) ?_
  refine mb_l_cons (ms_iconst dX8_holds_13 rfl rfl) ?_
  refine mb_l_cons (ms_zret dX8_holds_14 rfl) ?_
  exact mb_l_nil
theorem mr_X8_isIn (hX : mb_Fx l D cT s0 args0) : ∀ pc i, mb_look mc_X8_isIn pc = some i → mb_Snd l D cT s0 mb_mt RX8 "isIn" cX8_isIn 3 (some .boolean) [] pc i := by
  unfold mc_X8_isIn
  refine mb_l_cons (ms_iload_n dX8_isIn_0 rfl rfl) ?_
  refine mb_l_cons (ms_iload_n dX8_isIn_1 rfl rfl) ?_
  refine mb_l_cons (ms_icmp_lt dX8_isIn_2 rfl rfl) ?_
  refine mb_l_cons (ms_iload_n dX8_isIn_5 rfl rfl) ?_
  refine mb_l_cons (ms_iload_n dX8_isIn_6 rfl rfl) ?_
  refine mb_l_cons (ms_icmp_gt dX8_isIn_7 rfl rfl) ?_
  refine mb_l_cons (ms_iconst dX8_isIn_10 rfl rfl) ?_
  refine mb_l_cons (ms_goto dX8_isIn_11 rfl) ?_
  refine mb_l_cons (ms_iconst dX8_isIn_14 rfl rfl) ?_
  refine mb_l_cons (ms_zret dX8_isIn_15 rfl) ?_
  exact mb_l_nil
theorem mr_X8_isAsset (hX : mb_Fx l D cT s0 args0) : ∀ pc i, mb_look mc_X8_isAsset pc = some i → mb_Snd l D cT s0 mb_mt RX8 "isAsset" cX8_isAsset 2 (some .boolean) [] pc i := by
  unfold mc_X8_isAsset
  refine mb_l_cons (ms_iload_n dX8_isAsset_0 rfl rfl) ?_
  refine mb_l_cons (ms_iconst dX8_isAsset_1 rfl rfl) ?_
  refine mb_l_cons (ms_aload_n dX8_isAsset_2 rfl rfl) ?_
  refine mb_l_cons (ms_getf (ci := 8) (kf := 1) hX (C := RX8) (T := TX8) (N := 26) rfl (by decide) mu_X8 (Or.inl mw_754) dX8_isAsset_3 rfl) ?_
  refine mb_l_cons (ms_iconst dX8_isAsset_6 rfl rfl) ?_
  refine mb_l_cons (ms_isub dX8_isAsset_7 rfl) ?_
  refine mb_l_cons (ms_calls hX (y := 87) (y0 := yX8_isIn) (bytes := cX8_isIn) rfl mq_X8_81_X8_isIn mw_853 mw_854 dX8_isAsset_8 rfl) ?_
  refine mb_l_cons (ms_zret dX8_isAsset_11 rfl) ?_
  exact mb_l_nil
theorem mr_X8_isScene (hX : mb_Fx l D cT s0 args0) : ∀ pc i, mb_look mc_X8_isScene pc = some i → mb_Snd l D cT s0 mb_mt RX8 "isScene" cX8_isScene 2 (some .boolean) [] pc i := by
  unfold mc_X8_isScene
  refine mb_l_cons (ms_iload_n dX8_isScene_0 rfl rfl) ?_
  refine mb_l_cons (ms_iconst dX8_isScene_1 rfl rfl) ?_
  refine mb_l_cons (ms_aload_n dX8_isScene_2 rfl rfl) ?_
  refine mb_l_cons (ms_getf (ci := 8) (kf := 9) hX (C := RX8) (T := TX8) (N := 26) rfl (by decide) mu_X8 (Or.inl mw_762) dX8_isScene_3 rfl) ?_
  refine mb_l_cons (ms_iconst dX8_isScene_6 rfl rfl) ?_
  refine mb_l_cons (ms_isub dX8_isScene_7 rfl) ?_
  refine mb_l_cons (ms_calls hX (y := 87) (y0 := yX8_isIn) (bytes := cX8_isIn) rfl mq_X8_81_X8_isIn mw_853 mw_854 dX8_isScene_8 rfl) ?_
  refine mb_l_cons (ms_zret dX8_isScene_11 rfl) ?_
  exact mb_l_nil
theorem mr_X8_isFrame (hX : mb_Fx l D cT s0 args0) : ∀ pc i, mb_look mc_X8_isFrame pc = some i → mb_Snd l D cT s0 mb_mt RX8 "isFrame" cX8_isFrame 3 (some .boolean) [] pc i := by
  unfold mc_X8_isFrame
  refine mb_l_cons (ms_aload_n dX8_isFrame_0 rfl rfl) ?_
  refine mb_l_cons (ms_iload_n dX8_isFrame_1 rfl rfl) ?_
  refine mb_l_cons (ms_callv (ci := 8) hX (y := 89) (y0 := yX8_isScene) (bytes := cX8_isScene) rfl (C := RX8) (T := TX8) (N := 26) rfl mq_X8_88_X8_isScene mw_934 mw_936 mw_33 dX8_isFrame_2 (fun _ _ _ h => nomatch h) rfl) ?_
  refine mb_l_cons (ms_if_eq dX8_isFrame_5 rfl rfl) ?_
  refine mb_l_cons (ms_iload_n dX8_isFrame_8 rfl rfl) ?_
  refine mb_l_cons (ms_iconst dX8_isFrame_9 rfl rfl) ?_
  refine mb_l_cons (ms_aload_n dX8_isFrame_10 rfl rfl) ?_
  refine mb_l_cons (ms_getf (ci := 8) (kf := 10) hX (C := RX8) (T := TX8) (N := 26) rfl (by decide) mu_X8 (Or.inl mw_763) dX8_isFrame_11 rfl) ?_
  refine mb_l_cons (ms_iload_n dX8_isFrame_14 rfl rfl) ?_
  refine mb_l_cons (ms_iald hX dX8_isFrame_15 rfl) ?_
  refine mb_l_cons (ms_iconst dX8_isFrame_16 rfl rfl) ?_
  refine mb_l_cons (ms_isub dX8_isFrame_17 rfl) ?_
  refine mb_l_cons (ms_calls hX (y := 87) (y0 := yX8_isIn) (bytes := cX8_isIn) rfl mq_X8_81_X8_isIn mw_853 mw_854 dX8_isFrame_18 rfl) ?_
  refine mb_l_cons (ms_if_eq dX8_isFrame_21 rfl rfl) ?_
  refine mb_l_cons (ms_iconst dX8_isFrame_24 rfl rfl) ?_
  refine mb_l_cons (ms_goto dX8_isFrame_25 rfl) ?_
  refine mb_l_cons (ms_iconst dX8_isFrame_28 rfl rfl) ?_
  refine mb_l_cons (ms_zret dX8_isFrame_29 rfl) ?_
  exact mb_l_nil
theorem mr_X8_rigOf (hX : mb_Fx l D cT s0 args0) : ∀ pc i, mb_look mc_X8_rigOf pc = some i → mb_Snd l D cT s0 mb_mt RX8 "rigOf" cX8_rigOf 2 (some .int) [] pc i := by
  unfold mc_X8_rigOf
  refine mb_l_cons (ms_iload_n dX8_rigOf_0 rfl rfl) ?_
  refine mb_l_cons (ms_iconst dX8_rigOf_1 rfl rfl) ?_
  refine mb_l_cons (ms_icmp_ne dX8_rigOf_2 rfl rfl) ?_
  refine mb_l_cons (ms_iload_n dX8_rigOf_5 rfl rfl) ?_
  refine mb_l_cons (ms_goto dX8_rigOf_6 rfl) ?_
  refine mb_l_cons (ms_bipush dX8_rigOf_9 rfl rfl) ?_
  refine mb_l_cons (ms_bipush dX8_rigOf_11 rfl rfl) ?_
  refine mb_l_cons (ms_iload_n dX8_rigOf_13 rfl rfl) ?_
  refine mb_l_cons (ms_imul dX8_rigOf_14 rfl) ?_
  refine mb_l_cons (ms_iadd dX8_rigOf_15 rfl) ?_
  refine mb_l_cons (ms_iload_n dX8_rigOf_16 rfl rfl) ?_
  refine mb_l_cons (ms_iadd dX8_rigOf_17 rfl) ?_
  refine mb_l_cons (ms_iret dX8_rigOf_18 rfl) ?_
  exact mb_l_nil
theorem mr_X8_isRig (hX : mb_Fx l D cT s0 args0) : ∀ pc i, mb_look mc_X8_isRig pc = some i → mb_Snd l D cT s0 mb_mt RX8 "isRig" cX8_isRig 3 (some .boolean) [] pc i := by
  unfold mc_X8_isRig
  refine mb_l_cons (ms_aload_n dX8_isRig_0 rfl rfl) ?_
  refine mb_l_cons (ms_iload_n dX8_isRig_1 rfl rfl) ?_
  refine mb_l_cons (ms_callv (ci := 8) hX (y := 88) (y0 := yX8_isAsset) (bytes := cX8_isAsset) rfl (C := RX8) (T := TX8) (N := 26) rfl mq_X8_92_X8_isAsset mw_849 mw_851 mw_22 dX8_isRig_2 (fun _ _ _ h => nomatch h) rfl) ?_
  refine mb_l_cons (ms_if_eq dX8_isRig_5 rfl rfl) ?_
  refine mb_l_cons (ms_iload_n dX8_isRig_8 rfl rfl) ?_
  refine mb_l_cons (ms_iconst dX8_isRig_9 rfl rfl) ?_
  refine mb_l_cons (ms_aload_n dX8_isRig_10 rfl rfl) ?_
  refine mb_l_cons (ms_getf (ci := 8) (kf := 2) hX (C := RX8) (T := TX8) (N := 26) rfl (by decide) mu_X8 (Or.inl mw_755) dX8_isRig_11 rfl) ?_
  refine mb_l_cons (ms_iload_n dX8_isRig_14 rfl rfl) ?_
  refine mb_l_cons (ms_iald hX dX8_isRig_15 rfl) ?_
  refine mb_l_cons (ms_iconst dX8_isRig_16 rfl rfl) ?_
  refine mb_l_cons (ms_isub dX8_isRig_17 rfl) ?_
  refine mb_l_cons (ms_calls hX (y := 87) (y0 := yX8_isIn) (bytes := cX8_isIn) rfl mq_X8_81_X8_isIn mw_853 mw_854 dX8_isRig_18 rfl) ?_
  refine mb_l_cons (ms_if_eq dX8_isRig_21 rfl rfl) ?_
  refine mb_l_cons (ms_iconst dX8_isRig_24 rfl rfl) ?_
  refine mb_l_cons (ms_goto dX8_isRig_25 rfl) ?_
  refine mb_l_cons (ms_iconst dX8_isRig_28 rfl rfl) ?_
  refine mb_l_cons (ms_zret dX8_isRig_29 rfl) ?_
  exact mb_l_nil
theorem mr_X8_isBone (hX : mb_Fx l D cT s0 args0) : ∀ pc i, mb_look mc_X8_isBone pc = some i → mb_Snd l D cT s0 mb_mt RX8 "isBone" cX8_isBone 4 (some .boolean) [] pc i := by
  unfold mc_X8_isBone
  refine mb_l_cons (ms_aload_n dX8_isBone_0 rfl rfl) ?_
  refine mb_l_cons (ms_iload_n dX8_isBone_1 rfl rfl) ?_
  refine mb_l_cons (ms_iload_n dX8_isBone_2 rfl rfl) ?_
  refine mb_l_cons (ms_callv (ci := 8) hX (y := 92) (y0 := yX8_isRig) (bytes := cX8_isRig) rfl (C := RX8) (T := TX8) (N := 26) rfl mq_X8_95_X8_isRig mw_860 mw_862 mw_24 dX8_isBone_3 (fun _ _ _ h => nomatch h) rfl) ?_
  refine mb_l_cons (ms_if_eq dX8_isBone_6 rfl rfl) ?_
  refine mb_l_cons (ms_iload_n dX8_isBone_9 rfl rfl) ?_
  refine mb_l_cons (ms_iconst dX8_isBone_10 rfl rfl) ?_
  refine mb_l_cons (ms_aload_n dX8_isBone_11 rfl rfl) ?_
  refine mb_l_cons (ms_getf (ci := 8) (kf := 3) hX (C := RX8) (T := TX8) (N := 26) rfl (by decide) mu_X8 (Or.inl mw_756) dX8_isBone_12 rfl) ?_
  refine mb_l_cons (ms_iload_n dX8_isBone_15 rfl rfl) ?_
  refine mb_l_cons (ms_iload_n dX8_isBone_16 rfl rfl) ?_
  refine mb_l_cons (ms_calls hX (y := 91) (y0 := yX8_rigOf) (bytes := cX8_rigOf) rfl mq_X8_99_X8_rigOf mw_864 mw_865 dX8_isBone_17 rfl) ?_
  refine mb_l_cons (ms_iald hX dX8_isBone_20 rfl) ?_
  refine mb_l_cons (ms_iconst dX8_isBone_21 rfl rfl) ?_
  refine mb_l_cons (ms_isub dX8_isBone_22 rfl) ?_
  refine mb_l_cons (ms_calls hX (y := 87) (y0 := yX8_isIn) (bytes := cX8_isIn) rfl mq_X8_81_X8_isIn mw_853 mw_854 dX8_isBone_23 rfl) ?_
  refine mb_l_cons (ms_if_eq dX8_isBone_26 rfl rfl) ?_
  refine mb_l_cons (ms_iconst dX8_isBone_29 rfl rfl) ?_
  refine mb_l_cons (ms_goto dX8_isBone_30 rfl) ?_
  refine mb_l_cons (ms_iconst dX8_isBone_33 rfl rfl) ?_
  refine mb_l_cons (ms_zret dX8_isBone_34 rfl) ?_
  exact mb_l_nil
theorem mr_X8_keyAt (hX : mb_Fx l D cT s0 args0) : ∀ pc i, mb_look mc_X8_keyAt pc = some i → mb_Snd l D cT s0 mb_mt RX8 "keyAt" cX8_keyAt 4 (some .int) [] pc i := by
  unfold mc_X8_keyAt
  refine mb_l_cons (ms_iconst dX8_keyAt_0 rfl rfl) ?_
  refine mb_l_cons (ms_istore_n dX8_keyAt_1 rfl rfl) ?_
  refine mb_l_cons (ms_iload_n dX8_keyAt_2 rfl rfl) ?_
  refine mb_l_cons (ms_aload_n dX8_keyAt_3 rfl rfl) ?_
  refine mb_l_cons (ms_getf (ci := 8) (kf := 5) hX (C := RX8) (T := TX8) (N := 26) rfl (by decide) mu_X8 (Or.inl mw_758) dX8_keyAt_4 rfl) ?_
  refine mb_l_cons (ms_iload_n dX8_keyAt_7 rfl rfl) ?_
  refine mb_l_cons (ms_iald hX dX8_keyAt_8 rfl) ?_
  refine mb_l_cons (ms_icmp_ge dX8_keyAt_9 rfl rfl) ?_
  refine mb_l_cons (ms_aload_n dX8_keyAt_12 rfl rfl) ?_
  refine mb_l_cons (ms_getf (ci := 8) (kf := 6) hX (C := RX8) (T := TX8) (N := 26) rfl (by decide) mu_X8 (Or.inl mw_759) dX8_keyAt_13 rfl) ?_
  refine mb_l_cons (ms_bipush dX8_keyAt_16 rfl rfl) ?_
  refine mb_l_cons (ms_iload_n dX8_keyAt_18 rfl rfl) ?_
  refine mb_l_cons (ms_imul dX8_keyAt_19 rfl) ?_
  refine mb_l_cons (ms_iload_n dX8_keyAt_20 rfl rfl) ?_
  refine mb_l_cons (ms_iadd dX8_keyAt_21 rfl) ?_
  refine mb_l_cons (ms_iald hX dX8_keyAt_22 rfl) ?_
  refine mb_l_cons (ms_iload_n dX8_keyAt_23 rfl rfl) ?_
  refine mb_l_cons (ms_icmp_ge dX8_keyAt_24 rfl rfl) ?_
  refine mb_l_cons (ms_iinc dX8_keyAt_27 rfl rfl) ?_
  refine mb_l_cons (ms_goto dX8_keyAt_30 rfl) ?_
  refine mb_l_cons (ms_iload_n dX8_keyAt_33 rfl rfl) ?_
  refine mb_l_cons (ms_iret dX8_keyAt_34 rfl) ?_
  exact mb_l_nil
theorem mr_X8_isKeyAt (hX : mb_Fx l D cT s0 args0) : ∀ pc i, mb_look mc_X8_isKeyAt pc = some i → mb_Snd l D cT s0 mb_mt RX8 "isKeyAt" cX8_isKeyAt 4 (some .boolean) [] pc i := by
  unfold mc_X8_isKeyAt
  refine mb_l_cons (ms_aload_n dX8_isKeyAt_0 rfl rfl) ?_
  refine mb_l_cons (ms_iload_n dX8_isKeyAt_1 rfl rfl) ?_
  refine mb_l_cons (ms_iload_n dX8_isKeyAt_2 rfl rfl) ?_
  refine mb_l_cons (ms_callv (ci := 8) hX (y := 94) (y0 := yX8_keyAt) (bytes := cX8_keyAt) rfl (C := RX8) (T := TX8) (N := 26) rfl mq_X8_103_X8_keyAt mw_875 mw_877 mw_26 dX8_isKeyAt_3 (fun _ _ _ h => nomatch h) rfl) ?_
  refine mb_l_cons (ms_istore_n dX8_isKeyAt_6 rfl rfl) ?_
  refine mb_l_cons (ms_iload_n dX8_isKeyAt_7 rfl rfl) ?_
  refine mb_l_cons (ms_aload_n dX8_isKeyAt_8 rfl rfl) ?_
  refine mb_l_cons (ms_getf (ci := 8) (kf := 5) hX (C := RX8) (T := TX8) (N := 26) rfl (by decide) mu_X8 (Or.inl mw_758) dX8_isKeyAt_9 rfl) ?_
  refine mb_l_cons (ms_iload_n dX8_isKeyAt_12 rfl rfl) ?_
  refine mb_l_cons (ms_iald hX dX8_isKeyAt_13 rfl) ?_
  refine mb_l_cons (ms_icmp_ge dX8_isKeyAt_14 rfl rfl) ?_
  refine mb_l_cons (ms_aload_n dX8_isKeyAt_17 rfl rfl) ?_
  refine mb_l_cons (ms_getf (ci := 8) (kf := 6) hX (C := RX8) (T := TX8) (N := 26) rfl (by decide) mu_X8 (Or.inl mw_759) dX8_isKeyAt_18 rfl) ?_
  refine mb_l_cons (ms_bipush dX8_isKeyAt_21 rfl rfl) ?_
  refine mb_l_cons (ms_iload_n dX8_isKeyAt_23 rfl rfl) ?_
  refine mb_l_cons (ms_imul dX8_isKeyAt_24 rfl) ?_
  refine mb_l_cons (ms_iload_n dX8_isKeyAt_25 rfl rfl) ?_
  refine mb_l_cons (ms_iadd dX8_isKeyAt_26 rfl) ?_
  refine mb_l_cons (ms_iald hX dX8_isKeyAt_27 rfl) ?_
  refine mb_l_cons (ms_iload_n dX8_isKeyAt_28 rfl rfl) ?_
  refine mb_l_cons (ms_icmp_ne dX8_isKeyAt_29 rfl rfl) ?_
  refine mb_l_cons (ms_iconst dX8_isKeyAt_32 rfl rfl) ?_
  refine mb_l_cons (ms_goto dX8_isKeyAt_33 rfl) ?_
  refine mb_l_cons (ms_iconst dX8_isKeyAt_36 rfl rfl) ?_
  refine mb_l_cons (ms_zret dX8_isKeyAt_37 rfl) ?_
  exact mb_l_nil
theorem mr_X8_down (hX : mb_Fx l D cT s0 args0) : ∀ pc i, mb_look mc_X8_down pc = some i → mb_Snd l D cT s0 mb_mt RX8 "down" cX8_down 2 (some .int) [] pc i := by
  unfold mc_X8_down
  refine mb_l_cons (ms_iload_n dX8_down_0 rfl rfl) ?_
  refine mb_l_cons (ms_if_ge dX8_down_1 rfl rfl) ?_
  refine mb_l_cons (ms_iload_n dX8_down_4 rfl rfl) ?_
  refine mb_l_cons (ms_ineg dX8_down_5 rfl) ?_
  refine mb_l_cons (ms_iload_n dX8_down_6 rfl rfl) ?_
  refine mb_l_cons (ms_iadd dX8_down_7 rfl) ?_
  refine mb_l_cons (ms_iconst dX8_down_8 rfl rfl) ?_
  refine mb_l_cons (ms_isub dX8_down_9 rfl) ?_
  refine mb_l_cons (ms_iload_n dX8_down_10 rfl rfl) ?_
  refine mb_l_cons (ms_idiv dX8_down_11 rfl) ?_
  refine mb_l_cons (ms_ineg dX8_down_12 rfl) ?_
  refine mb_l_cons (ms_goto dX8_down_13 rfl) ?_
  refine mb_l_cons (ms_iload_n dX8_down_16 rfl rfl) ?_
  refine mb_l_cons (ms_iload_n dX8_down_17 rfl rfl) ?_
  refine mb_l_cons (ms_idiv dX8_down_18 rfl) ?_
  refine mb_l_cons (ms_iret dX8_down_19 rfl) ?_
  exact mb_l_nil
theorem mr_X8_valueAt (hX : mb_Fx l D cT s0 args0) : ∀ pc i, mb_look mc_X8_valueAt pc = some i → mb_Snd l D cT s0 mb_mt RX8 "valueAt" cX8_valueAt 9 (some .int) [] pc i := by
  unfold mc_X8_valueAt
  refine mb_l_cons (ms_aload_n dX8_valueAt_0 rfl rfl) ?_
  refine mb_l_cons (ms_getf (ci := 8) (kf := 5) hX (C := RX8) (T := TX8) (N := 26) rfl (by decide) mu_X8 (Or.inl mw_758) dX8_valueAt_1 rfl) ?_
  refine mb_l_cons (ms_iload_n dX8_valueAt_4 rfl rfl) ?_
  refine mb_l_cons (ms_iald hX dX8_valueAt_5 rfl) ?_
  refine mb_l_cons (ms_if_ne dX8_valueAt_6 rfl rfl) ?_
  refine mb_l_cons (ms_iconst dX8_valueAt_9 rfl rfl) ?_
  refine mb_l_cons (ms_iret dX8_valueAt_10 rfl) ?_
  refine mb_l_cons (ms_aload_n dX8_valueAt_11 rfl rfl) ?_
  refine mb_l_cons (ms_iload_n dX8_valueAt_12 rfl rfl) ?_
  refine mb_l_cons (ms_iload_n dX8_valueAt_13 rfl rfl) ?_
  refine mb_l_cons (ms_iconst dX8_valueAt_14 rfl rfl) ?_
  refine mb_l_cons (ms_iadd dX8_valueAt_15 rfl) ?_
  refine mb_l_cons (ms_callv (ci := 8) hX (y := 94) (y0 := yX8_keyAt) (bytes := cX8_keyAt) rfl (C := RX8) (T := TX8) (N := 26) rfl mq_X8_103_X8_keyAt mw_875 mw_877 mw_26 dX8_valueAt_16 (fun _ _ _ h => nomatch h) rfl) ?_
  refine mb_l_cons (ms_istore_n dX8_valueAt_19 rfl rfl) ?_
  refine mb_l_cons (ms_bipush dX8_valueAt_20 rfl rfl) ?_
  refine mb_l_cons (ms_iload_n dX8_valueAt_22 rfl rfl) ?_
  refine mb_l_cons (ms_imul dX8_valueAt_23 rfl) ?_
  refine mb_l_cons (ms_iload_n dX8_valueAt_24 rfl rfl) ?_
  refine mb_l_cons (ms_if_ne dX8_valueAt_25 rfl rfl) ?_
  refine mb_l_cons (ms_iconst dX8_valueAt_28 rfl rfl) ?_
  refine mb_l_cons (ms_goto dX8_valueAt_29 rfl) ?_
  refine mb_l_cons (ms_iload_n dX8_valueAt_32 rfl rfl) ?_
  refine mb_l_cons (ms_iconst dX8_valueAt_33 rfl rfl) ?_
  refine mb_l_cons (ms_isub dX8_valueAt_34 rfl) ?_
  refine mb_l_cons (ms_iadd dX8_valueAt_35 rfl) ?_
  refine mb_l_cons (ms_istore dX8_valueAt_36 rfl) ?_
  refine mb_l_cons (ms_aload_n dX8_valueAt_38 rfl rfl) ?_
  refine mb_l_cons (ms_getf (ci := 8) (kf := 7) hX (C := RX8) (T := TX8) (N := 26) rfl (by decide) mu_X8 (Or.inl mw_760) dX8_valueAt_39 rfl) ?_
  refine mb_l_cons (ms_iload dX8_valueAt_42 rfl) ?_
  refine mb_l_cons (ms_iald hX dX8_valueAt_44 rfl) ?_
  refine mb_l_cons (ms_istore dX8_valueAt_45 rfl) ?_
  refine mb_l_cons (ms_iload_n dX8_valueAt_47 rfl rfl) ?_
  refine mb_l_cons (ms_if_eq dX8_valueAt_48 rfl rfl) ?_
  refine mb_l_cons (ms_iload_n dX8_valueAt_51 rfl rfl) ?_
  refine mb_l_cons (ms_aload_n dX8_valueAt_52 rfl rfl) ?_
  refine mb_l_cons (ms_getf (ci := 8) (kf := 5) hX (C := RX8) (T := TX8) (N := 26) rfl (by decide) mu_X8 (Or.inl mw_758) dX8_valueAt_53 rfl) ?_
  refine mb_l_cons (ms_iload_n dX8_valueAt_56 rfl rfl) ?_
  refine mb_l_cons (ms_iald hX dX8_valueAt_57 rfl) ?_
  refine mb_l_cons (ms_icmp_eq dX8_valueAt_58 rfl rfl) ?_
  refine mb_l_cons (ms_aload_n dX8_valueAt_61 rfl rfl) ?_
  refine mb_l_cons (ms_getf (ci := 8) (kf := 8) hX (C := RX8) (T := TX8) (N := 26) rfl (by decide) mu_X8 (Or.inl mw_761) dX8_valueAt_62 rfl) ?_
  refine mb_l_cons (ms_iload dX8_valueAt_65 rfl) ?_
  refine mb_l_cons (ms_iald hX dX8_valueAt_67 rfl) ?_
  refine mb_l_cons (ms_if_ne dX8_valueAt_68 rfl rfl) ?_
  refine mb_l_cons (ms_iload dX8_valueAt_71 rfl) ?_
  refine mb_l_cons (ms_iret dX8_valueAt_73 rfl) ?_
  refine mb_l_cons (ms_aload_n dX8_valueAt_74 rfl rfl) ?_
  refine mb_l_cons (ms_getf (ci := 8) (kf := 7) hX (C := RX8) (T := TX8) (N := 26) rfl (by decide) mu_X8 (Or.inl mw_760) dX8_valueAt_75 rfl) ?_
  refine mb_l_cons (ms_iload dX8_valueAt_78 rfl) ?_
  refine mb_l_cons (ms_iconst dX8_valueAt_80 rfl rfl) ?_
  refine mb_l_cons (ms_iadd dX8_valueAt_81 rfl) ?_
  refine mb_l_cons (ms_iald hX dX8_valueAt_82 rfl) ?_
  refine mb_l_cons (ms_iload dX8_valueAt_83 rfl) ?_
  refine mb_l_cons (ms_isub dX8_valueAt_85 rfl) ?_
  refine mb_l_cons (ms_istore dX8_valueAt_86 rfl) ?_
  refine mb_l_cons (ms_iload_n dX8_valueAt_88 rfl rfl) ?_
  refine mb_l_cons (ms_aload_n dX8_valueAt_89 rfl rfl) ?_
  refine mb_l_cons (ms_getf (ci := 8) (kf := 6) hX (C := RX8) (T := TX8) (N := 26) rfl (by decide) mu_X8 (Or.inl mw_759) dX8_valueAt_90 rfl) ?_
  refine mb_l_cons (ms_iload dX8_valueAt_93 rfl) ?_
  refine mb_l_cons (ms_iald hX dX8_valueAt_95 rfl) ?_
  refine mb_l_cons (ms_isub dX8_valueAt_96 rfl) ?_
  refine mb_l_cons (ms_istore dX8_valueAt_97 rfl) ?_
  refine mb_l_cons (ms_aload_n dX8_valueAt_99 rfl rfl) ?_
  refine mb_l_cons (ms_getf (ci := 8) (kf := 6) hX (C := RX8) (T := TX8) (N := 26) rfl (by decide) mu_X8 (Or.inl mw_759) dX8_valueAt_100 rfl) ?_
  refine mb_l_cons (ms_iload dX8_valueAt_103 rfl) ?_
  refine mb_l_cons (ms_iconst dX8_valueAt_105 rfl rfl) ?_
  refine mb_l_cons (ms_iadd dX8_valueAt_106 rfl) ?_
  refine mb_l_cons (ms_iald hX dX8_valueAt_107 rfl) ?_
  refine mb_l_cons (ms_aload_n dX8_valueAt_108 rfl rfl) ?_
  refine mb_l_cons (ms_getf (ci := 8) (kf := 6) hX (C := RX8) (T := TX8) (N := 26) rfl (by decide) mu_X8 (Or.inl mw_759) dX8_valueAt_109 rfl) ?_
  refine mb_l_cons (ms_iload dX8_valueAt_112 rfl) ?_
  refine mb_l_cons (ms_iald hX dX8_valueAt_114 rfl) ?_
  refine mb_l_cons (ms_isub dX8_valueAt_115 rfl) ?_
  refine mb_l_cons (ms_istore dX8_valueAt_116 rfl) ?_
  refine mb_l_cons (ms_iload dX8_valueAt_118 rfl) ?_
  refine mb_l_cons (ms_aload_n dX8_valueAt_120 rfl rfl) ?_
  refine mb_l_cons (ms_getf (ci := 8) (kf := 8) hX (C := RX8) (T := TX8) (N := 26) rfl (by decide) mu_X8 (Or.inl mw_761) dX8_valueAt_121 rfl) ?_
  refine mb_l_cons (ms_iload dX8_valueAt_124 rfl) ?_
  refine mb_l_cons (ms_iald hX dX8_valueAt_126 rfl) ?_
  refine mb_l_cons (ms_iconst dX8_valueAt_127 rfl rfl) ?_
  refine mb_l_cons (ms_icmp_ne dX8_valueAt_128 rfl rfl) ?_
  refine mb_l_cons (ms_iload dX8_valueAt_131 rfl) ?_
  refine mb_l_cons (ms_iload dX8_valueAt_133 rfl) ?_
  refine mb_l_cons (ms_imul dX8_valueAt_135 rfl) ?_
  refine mb_l_cons (ms_iload dX8_valueAt_136 rfl) ?_
  refine mb_l_cons (ms_calls hX (y := 96) (y0 := yX8_down) (bytes := cX8_down) rfl mq_X8_106_X8_down mw_911 mw_912 dX8_valueAt_138 rfl) ?_
  refine mb_l_cons (ms_goto dX8_valueAt_141 rfl) ?_
  refine mb_l_cons (ms_iload dX8_valueAt_144 rfl) ?_
  refine mb_l_cons (ms_iload dX8_valueAt_146 rfl) ?_
  refine mb_l_cons (ms_imul dX8_valueAt_148 rfl) ?_
  refine mb_l_cons (ms_iload dX8_valueAt_149 rfl) ?_
  refine mb_l_cons (ms_imul dX8_valueAt_151 rfl) ?_
  refine mb_l_cons (ms_iload dX8_valueAt_152 rfl) ?_
  refine mb_l_cons (ms_iload dX8_valueAt_154 rfl) ?_
  refine mb_l_cons (ms_imul dX8_valueAt_156 rfl) ?_
  refine mb_l_cons (ms_calls hX (y := 96) (y0 := yX8_down) (bytes := cX8_down) rfl mq_X8_106_X8_down mw_911 mw_912 dX8_valueAt_157 rfl) ?_
  refine mb_l_cons (ms_iadd dX8_valueAt_160 rfl) ?_
  refine mb_l_cons (ms_iret dX8_valueAt_161 rfl) ?_
  exact mb_l_nil
theorem mr_X8_poseOf (hX : mb_Fx l D cT s0 args0) : ∀ pc i, mb_look mc_X8_poseOf pc = some i → mb_Snd l D cT s0 mb_mt RX8 "poseOf" cX8_poseOf 6 (some .int) [] pc i := by
  unfold mc_X8_poseOf
  refine mb_l_cons (ms_iconst dX8_poseOf_0 rfl rfl) ?_
  refine mb_l_cons (ms_istore dX8_poseOf_1 rfl) ?_
  refine mb_l_cons (ms_iload_n dX8_poseOf_3 rfl rfl) ?_
  refine mb_l_cons (ms_istore dX8_poseOf_4 rfl) ?_
  refine mb_l_cons (ms_iload dX8_poseOf_6 rfl) ?_
  refine mb_l_cons (ms_iconst dX8_poseOf_8 rfl rfl) ?_
  refine mb_l_cons (ms_icmp_eq dX8_poseOf_9 rfl rfl) ?_
  refine mb_l_cons (ms_iload dX8_poseOf_12 rfl) ?_
  refine mb_l_cons (ms_aload_n dX8_poseOf_14 rfl rfl) ?_
  refine mb_l_cons (ms_bipush dX8_poseOf_15 rfl rfl) ?_
  refine mb_l_cons (ms_iload_n dX8_poseOf_17 rfl rfl) ?_
  refine mb_l_cons (ms_imul dX8_poseOf_18 rfl) ?_
  refine mb_l_cons (ms_iload dX8_poseOf_19 rfl) ?_
  refine mb_l_cons (ms_iadd dX8_poseOf_21 rfl) ?_
  refine mb_l_cons (ms_iload_n dX8_poseOf_22 rfl rfl) ?_
  refine mb_l_cons (ms_callv (ci := 8) hX (y := 97) (y0 := yX8_valueAt) (bytes := cX8_valueAt) rfl (C := RX8) (T := TX8) (N := 26) rfl mq_X8_109_X8_valueAt mw_907 mw_909 mw_31 dX8_poseOf_23 (fun _ _ _ h => nomatch h) rfl) ?_
  refine mb_l_cons (ms_iadd dX8_poseOf_26 rfl) ?_
  refine mb_l_cons (ms_istore dX8_poseOf_27 rfl) ?_
  refine mb_l_cons (ms_aload_n dX8_poseOf_29 rfl rfl) ?_
  refine mb_l_cons (ms_getf (ci := 8) (kf := 4) hX (C := RX8) (T := TX8) (N := 26) rfl (by decide) mu_X8 (Or.inl mw_757) dX8_poseOf_30 rfl) ?_
  refine mb_l_cons (ms_bipush dX8_poseOf_33 rfl rfl) ?_
  refine mb_l_cons (ms_iload_n dX8_poseOf_35 rfl rfl) ?_
  refine mb_l_cons (ms_imul dX8_poseOf_36 rfl) ?_
  refine mb_l_cons (ms_iload dX8_poseOf_37 rfl) ?_
  refine mb_l_cons (ms_iadd dX8_poseOf_39 rfl) ?_
  refine mb_l_cons (ms_iald hX dX8_poseOf_40 rfl) ?_
  refine mb_l_cons (ms_istore dX8_poseOf_41 rfl) ?_
  refine mb_l_cons (ms_goto dX8_poseOf_43 rfl) ?_
  refine mb_l_cons (ms_iload dX8_poseOf_46 rfl) ?_
  refine mb_l_cons (ms_iret dX8_poseOf_48 rfl) ?_
  exact mb_l_nil
theorem mr_X8_asset (hX : mb_Fx l D cT s0 args0) : ∀ pc i, mb_look mc_X8_asset pc = some i → mb_Snd l D cT s0 mb_mt RX8 "asset" cX8_asset 1 (some .int) [] pc i := by
  unfold mc_X8_asset
  refine mb_l_cons (ms_aload_n dX8_asset_0 rfl rfl) ?_
  refine mb_l_cons (ms_aload_n dX8_asset_1 rfl rfl) ?_
  refine mb_l_cons (ms_getf (ci := 8) (kf := 1) hX (C := RX8) (T := TX8) (N := 26) rfl (by decide) mu_X8 (Or.inl mw_754) dX8_asset_2 rfl) ?_
  refine mb_l_cons (ms_bipush dX8_asset_5 rfl rfl) ?_
  refine mb_l_cons (ms_icmp_ne dX8_asset_7 rfl rfl) ?_
  refine mb_l_cons (ms_iconst dX8_asset_10 rfl rfl) ?_
  refine mb_l_cons (ms_goto dX8_asset_11 rfl) ?_
  refine mb_l_cons (ms_iconst dX8_asset_14 rfl rfl) ?_
  refine mb_l_cons (ms_callv (ci := 8) hX (y := 86) (y0 := yX8_holds) (bytes := cX8_holds) rfl (C := RX8) (T := TX8) (N := 26) rfl mq_X8_112_X8_holds mw_841 mw_843 mw_21 dX8_asset_15 (fun _ _ _ h => nomatch h) rfl) ?_
  refine mb_l_cons (ms_if_ne dX8_asset_18 rfl rfl) ?_
  refine mb_l_cons (ms_iconst dX8_asset_21 rfl rfl) ?_
  refine mb_l_cons (ms_iret dX8_asset_22 rfl) ?_
  refine mb_l_cons (ms_aload_n dX8_asset_23 rfl rfl) ?_
  refine mb_l_cons (ms_dup dX8_asset_24 rfl) ?_
  refine mb_l_cons (ms_getf (ci := 8) (kf := 1) hX (C := RX8) (T := TX8) (N := 26) rfl (by decide) mu_X8 (Or.inl mw_754) dX8_asset_25 rfl) ?_
  refine mb_l_cons (ms_iconst dX8_asset_28 rfl rfl) ?_
  refine mb_l_cons (ms_iadd dX8_asset_29 rfl) ?_
  refine mb_l_cons (ms_putf (ci := 8) (kf := 1) (z := 0) hX (C := RX8) (T := TX8) (N := 26) rfl (by decide) mu_X8 tyX8 tyX8_ok nmX8 (Or.inl ⟨rfl, rfl⟩) rfl (Or.inl mw_754) dX8_asset_30 rfl) ?_
  refine mb_l_cons (ms_aload_n dX8_asset_33 rfl rfl) ?_
  refine mb_l_cons (ms_getf (ci := 8) (kf := 1) hX (C := RX8) (T := TX8) (N := 26) rfl (by decide) mu_X8 (Or.inl mw_754) dX8_asset_34 rfl) ?_
  refine mb_l_cons (ms_iconst dX8_asset_37 rfl rfl) ?_
  refine mb_l_cons (ms_isub dX8_asset_38 rfl) ?_
  refine mb_l_cons (ms_iret dX8_asset_39 rfl) ?_
  exact mb_l_nil
theorem mr_X8_bone (hX : mb_Fx l D cT s0 args0) : ∀ pc i, mb_look mc_X8_bone pc = some i → mb_Snd l D cT s0 mb_mt RX8 "bone" cX8_bone 4 (some .int) [] pc i := by
  unfold mc_X8_bone
  refine mb_l_cons (ms_aload_n dX8_bone_0 rfl rfl) ?_
  refine mb_l_cons (ms_iload_n dX8_bone_1 rfl rfl) ?_
  refine mb_l_cons (ms_callv (ci := 8) hX (y := 88) (y0 := yX8_isAsset) (bytes := cX8_isAsset) rfl (C := RX8) (T := TX8) (N := 26) rfl mq_X8_92_X8_isAsset mw_849 mw_851 mw_22 dX8_bone_2 (fun _ _ _ h => nomatch h) rfl) ?_
  refine mb_l_cons (ms_if_eq dX8_bone_5 rfl rfl) ?_
  refine mb_l_cons (ms_iload_n dX8_bone_8 rfl rfl) ?_
  refine mb_l_cons (ms_iconst dX8_bone_9 rfl rfl) ?_
  refine mb_l_cons (ms_icmp_eq dX8_bone_10 rfl rfl) ?_
  refine mb_l_cons (ms_aload_n dX8_bone_13 rfl rfl) ?_
  refine mb_l_cons (ms_iload_n dX8_bone_14 rfl rfl) ?_
  refine mb_l_cons (ms_iconst dX8_bone_15 rfl rfl) ?_
  refine mb_l_cons (ms_iload_n dX8_bone_16 rfl rfl) ?_
  refine mb_l_cons (ms_callv (ci := 8) hX (y := 93) (y0 := yX8_isBone) (bytes := cX8_isBone) rfl (C := RX8) (T := TX8) (N := 26) rfl mq_X8_115_X8_isBone mw_856 mw_858 mw_23 dX8_bone_17 (fun _ _ _ h => nomatch h) rfl) ?_
  refine mb_l_cons (ms_if_eq dX8_bone_20 rfl rfl) ?_
  refine mb_l_cons (ms_iconst dX8_bone_23 rfl rfl) ?_
  refine mb_l_cons (ms_goto dX8_bone_24 rfl) ?_
  refine mb_l_cons (ms_iconst dX8_bone_27 rfl rfl) ?_
  refine mb_l_cons (ms_istore_n dX8_bone_28 rfl rfl) ?_
  refine mb_l_cons (ms_aload_n dX8_bone_29 rfl rfl) ?_
  refine mb_l_cons (ms_iload_n dX8_bone_30 rfl rfl) ?_
  refine mb_l_cons (ms_if_ne dX8_bone_31 rfl rfl) ?_
  refine mb_l_cons (ms_iconst dX8_bone_34 rfl rfl) ?_
  refine mb_l_cons (ms_goto dX8_bone_35 rfl) ?_
  refine mb_l_cons (ms_aload_n dX8_bone_38 rfl rfl) ?_
  refine mb_l_cons (ms_getf (ci := 8) (kf := 3) hX (C := RX8) (T := TX8) (N := 26) rfl (by decide) mu_X8 (Or.inl mw_756) dX8_bone_39 rfl) ?_
  refine mb_l_cons (ms_iload_n dX8_bone_42 rfl rfl) ?_
  refine mb_l_cons (ms_iald hX dX8_bone_43 rfl) ?_
  refine mb_l_cons (ms_bipush dX8_bone_44 rfl rfl) ?_
  refine mb_l_cons (ms_icmp_ne dX8_bone_46 rfl rfl) ?_
  refine mb_l_cons (ms_iconst dX8_bone_49 rfl rfl) ?_
  refine mb_l_cons (ms_goto dX8_bone_50 rfl) ?_
  refine mb_l_cons (ms_iconst dX8_bone_53 rfl rfl) ?_
  refine mb_l_cons (ms_callv (ci := 8) hX (y := 86) (y0 := yX8_holds) (bytes := cX8_holds) rfl (C := RX8) (T := TX8) (N := 26) rfl mq_X8_112_X8_holds mw_841 mw_843 mw_21 dX8_bone_54 (fun _ _ _ h => nomatch h) rfl) ?_
  refine mb_l_cons (ms_if_ne dX8_bone_57 rfl rfl) ?_
  refine mb_l_cons (ms_iconst dX8_bone_60 rfl rfl) ?_
  refine mb_l_cons (ms_iret dX8_bone_61 rfl) ?_
  refine mb_l_cons (ms_aload_n dX8_bone_62 rfl rfl) ?_
  refine mb_l_cons (ms_getf (ci := 8) (kf := 4) hX (C := RX8) (T := TX8) (N := 26) rfl (by decide) mu_X8 (Or.inl mw_757) dX8_bone_63 rfl) ?_
  refine mb_l_cons (ms_bipush dX8_bone_66 rfl rfl) ?_
  refine mb_l_cons (ms_iload_n dX8_bone_68 rfl rfl) ?_
  refine mb_l_cons (ms_imul dX8_bone_69 rfl) ?_
  refine mb_l_cons (ms_aload_n dX8_bone_70 rfl rfl) ?_
  refine mb_l_cons (ms_getf (ci := 8) (kf := 3) hX (C := RX8) (T := TX8) (N := 26) rfl (by decide) mu_X8 (Or.inl mw_756) dX8_bone_71 rfl) ?_
  refine mb_l_cons (ms_iload_n dX8_bone_74 rfl rfl) ?_
  refine mb_l_cons (ms_iald hX dX8_bone_75 rfl) ?_
  refine mb_l_cons (ms_iadd dX8_bone_76 rfl) ?_
  refine mb_l_cons (ms_iload_n dX8_bone_77 rfl rfl) ?_
  refine mb_l_cons (ms_iast hX dX8_bone_78 rfl) ?_
  refine mb_l_cons (ms_aload_n dX8_bone_79 rfl rfl) ?_
  refine mb_l_cons (ms_getf (ci := 8) (kf := 3) hX (C := RX8) (T := TX8) (N := 26) rfl (by decide) mu_X8 (Or.inl mw_756) dX8_bone_80 rfl) ?_
  refine mb_l_cons (ms_iload_n dX8_bone_83 rfl rfl) ?_
  refine mb_l_cons (ms_dup2 dX8_bone_84 rfl) ?_
  refine mb_l_cons (ms_iald hX dX8_bone_85 rfl) ?_
  refine mb_l_cons (ms_iconst dX8_bone_86 rfl rfl) ?_
  refine mb_l_cons (ms_iadd dX8_bone_87 rfl) ?_
  refine mb_l_cons (ms_iast hX dX8_bone_88 rfl) ?_
  refine mb_l_cons (ms_aload_n dX8_bone_89 rfl rfl) ?_
  refine mb_l_cons (ms_getf (ci := 8) (kf := 3) hX (C := RX8) (T := TX8) (N := 26) rfl (by decide) mu_X8 (Or.inl mw_756) dX8_bone_90 rfl) ?_
  refine mb_l_cons (ms_iload_n dX8_bone_93 rfl rfl) ?_
  refine mb_l_cons (ms_iald hX dX8_bone_94 rfl) ?_
  refine mb_l_cons (ms_iconst dX8_bone_95 rfl rfl) ?_
  refine mb_l_cons (ms_isub dX8_bone_96 rfl) ?_
  refine mb_l_cons (ms_iret dX8_bone_97 rfl) ?_
  exact mb_l_nil
theorem mr_X8_laysKey (hX : mb_Fx l D cT s0 args0) : ∀ pc i, mb_look mc_X8_laysKey pc = some i → mb_Snd l D cT s0 mb_mt RX8 "laysKey" cX8_laysKey 5 none [] pc i := by
  unfold mc_X8_laysKey
  refine mb_l_cons (ms_aload_n dX8_laysKey_0 rfl rfl) ?_
  refine mb_l_cons (ms_getf (ci := 8) (kf := 6) hX (C := RX8) (T := TX8) (N := 26) rfl (by decide) mu_X8 (Or.inl mw_759) dX8_laysKey_1 rfl) ?_
  refine mb_l_cons (ms_iload_n dX8_laysKey_4 rfl rfl) ?_
  refine mb_l_cons (ms_iload_n dX8_laysKey_5 rfl rfl) ?_
  refine mb_l_cons (ms_iast hX dX8_laysKey_6 rfl) ?_
  refine mb_l_cons (ms_aload_n dX8_laysKey_7 rfl rfl) ?_
  refine mb_l_cons (ms_getf (ci := 8) (kf := 7) hX (C := RX8) (T := TX8) (N := 26) rfl (by decide) mu_X8 (Or.inl mw_760) dX8_laysKey_8 rfl) ?_
  refine mb_l_cons (ms_iload_n dX8_laysKey_11 rfl rfl) ?_
  refine mb_l_cons (ms_iload_n dX8_laysKey_12 rfl rfl) ?_
  refine mb_l_cons (ms_iast hX dX8_laysKey_13 rfl) ?_
  refine mb_l_cons (ms_aload_n dX8_laysKey_14 rfl rfl) ?_
  refine mb_l_cons (ms_getf (ci := 8) (kf := 8) hX (C := RX8) (T := TX8) (N := 26) rfl (by decide) mu_X8 (Or.inl mw_761) dX8_laysKey_15 rfl) ?_
  refine mb_l_cons (ms_iload_n dX8_laysKey_18 rfl rfl) ?_
  refine mb_l_cons (ms_iload dX8_laysKey_19 rfl) ?_
  refine mb_l_cons (ms_iast hX dX8_laysKey_21 rfl) ?_
  refine mb_l_cons (ms_vret dX8_laysKey_22 rfl) ?_
  exact mb_l_nil
theorem mr_X8_copiesKey (hX : mb_Fx l D cT s0 args0) : ∀ pc i, mb_look mc_X8_copiesKey pc = some i → mb_Snd l D cT s0 mb_mt RX8 "copiesKey" cX8_copiesKey 3 none [] pc i := by
  unfold mc_X8_copiesKey
  refine mb_l_cons (ms_aload_n dX8_copiesKey_0 rfl rfl) ?_
  refine mb_l_cons (ms_iload_n dX8_copiesKey_1 rfl rfl) ?_
  refine mb_l_cons (ms_aload_n dX8_copiesKey_2 rfl rfl) ?_
  refine mb_l_cons (ms_getf (ci := 8) (kf := 6) hX (C := RX8) (T := TX8) (N := 26) rfl (by decide) mu_X8 (Or.inl mw_759) dX8_copiesKey_3 rfl) ?_
  refine mb_l_cons (ms_iload_n dX8_copiesKey_6 rfl rfl) ?_
  refine mb_l_cons (ms_iald hX dX8_copiesKey_7 rfl) ?_
  refine mb_l_cons (ms_aload_n dX8_copiesKey_8 rfl rfl) ?_
  refine mb_l_cons (ms_getf (ci := 8) (kf := 7) hX (C := RX8) (T := TX8) (N := 26) rfl (by decide) mu_X8 (Or.inl mw_760) dX8_copiesKey_9 rfl) ?_
  refine mb_l_cons (ms_iload_n dX8_copiesKey_12 rfl rfl) ?_
  refine mb_l_cons (ms_iald hX dX8_copiesKey_13 rfl) ?_
  refine mb_l_cons (ms_aload_n dX8_copiesKey_14 rfl rfl) ?_
  refine mb_l_cons (ms_getf (ci := 8) (kf := 8) hX (C := RX8) (T := TX8) (N := 26) rfl (by decide) mu_X8 (Or.inl mw_761) dX8_copiesKey_15 rfl) ?_
  refine mb_l_cons (ms_iload_n dX8_copiesKey_18 rfl rfl) ?_
  refine mb_l_cons (ms_iald hX dX8_copiesKey_19 rfl) ?_
  refine mb_l_cons (ms_callv (ci := 8) hX (y := 101) (y0 := yX8_laysKey) (bytes := cX8_laysKey) rfl (C := RX8) (T := TX8) (N := 26) rfl mq_X8_118_X8_laysKey mw_883 mw_885 mw_28 dX8_copiesKey_20 (fun _ _ _ h => nomatch h) rfl) ?_
  refine mb_l_cons (ms_vret dX8_copiesKey_23 rfl) ?_
  exact mb_l_nil
theorem mr_X8_key (hX : mb_Fx l D cT s0 args0) : ∀ pc i, mb_look mc_X8_key pc = some i → mb_Snd l D cT s0 mb_mt RX8 "key" cX8_key 11 (some .int) [] pc i := by
  unfold mc_X8_key
  refine mb_l_cons (ms_aload_n dX8_key_0 rfl rfl) ?_
  refine mb_l_cons (ms_iload_n dX8_key_1 rfl rfl) ?_
  refine mb_l_cons (ms_iconst dX8_key_2 rfl rfl) ?_
  refine mb_l_cons (ms_iload_n dX8_key_3 rfl rfl) ?_
  refine mb_l_cons (ms_callv (ci := 8) hX (y := 93) (y0 := yX8_isBone) (bytes := cX8_isBone) rfl (C := RX8) (T := TX8) (N := 26) rfl mq_X8_115_X8_isBone mw_856 mw_858 mw_23 dX8_key_4 (fun _ _ _ h => nomatch h) rfl) ?_
  refine mb_l_cons (ms_istore dX8_key_7 rfl) ?_
  refine mb_l_cons (ms_iload_n dX8_key_9 rfl rfl) ?_
  refine mb_l_cons (ms_iconst dX8_key_10 rfl rfl) ?_
  refine mb_l_cons (ms_bipush dX8_key_11 rfl rfl) ?_
  refine mb_l_cons (ms_calls hX (y := 87) (y0 := yX8_isIn) (bytes := cX8_isIn) rfl mq_X8_81_X8_isIn mw_853 mw_854 dX8_key_13 rfl) ?_
  refine mb_l_cons (ms_if_eq dX8_key_16 rfl rfl) ?_
  refine mb_l_cons (ms_iload dX8_key_19 rfl) ?_
  refine mb_l_cons (ms_sipush dX8_key_21 rfl rfl) ?_
  refine mb_l_cons (ms_sipush dX8_key_24 rfl rfl) ?_
  refine mb_l_cons (ms_calls hX (y := 87) (y0 := yX8_isIn) (bytes := cX8_isIn) rfl mq_X8_81_X8_isIn mw_853 mw_854 dX8_key_27 rfl) ?_
  refine mb_l_cons (ms_if_eq dX8_key_30 rfl rfl) ?_
  refine mb_l_cons (ms_iload dX8_key_33 rfl) ?_
  refine mb_l_cons (ms_iconst dX8_key_35 rfl rfl) ?_
  refine mb_l_cons (ms_iconst dX8_key_36 rfl rfl) ?_
  refine mb_l_cons (ms_calls hX (y := 87) (y0 := yX8_isIn) (bytes := cX8_isIn) rfl mq_X8_81_X8_isIn mw_853 mw_854 dX8_key_37 rfl) ?_
  refine mb_l_cons (ms_if_eq dX8_key_40 rfl rfl) ?_
  refine mb_l_cons (ms_iconst dX8_key_43 rfl rfl) ?_
  refine mb_l_cons (ms_goto dX8_key_44 rfl) ?_
  refine mb_l_cons (ms_iconst dX8_key_47 rfl rfl) ?_
  refine mb_l_cons (ms_istore dX8_key_48 rfl) ?_
  refine mb_l_cons (ms_iload dX8_key_50 rfl) ?_
  refine mb_l_cons (ms_if_eq dX8_key_52 rfl rfl) ?_
  refine mb_l_cons (ms_bipush dX8_key_55 rfl rfl) ?_
  refine mb_l_cons (ms_iload_n dX8_key_57 rfl rfl) ?_
  refine mb_l_cons (ms_imul dX8_key_58 rfl) ?_
  refine mb_l_cons (ms_iload_n dX8_key_59 rfl rfl) ?_
  refine mb_l_cons (ms_iadd dX8_key_60 rfl) ?_
  refine mb_l_cons (ms_goto dX8_key_61 rfl) ?_
  refine mb_l_cons (ms_iconst dX8_key_64 rfl rfl) ?_
  refine mb_l_cons (ms_istore dX8_key_65 rfl) ?_
  refine mb_l_cons (ms_aload_n dX8_key_67 rfl rfl) ?_
  refine mb_l_cons (ms_iload dX8_key_68 rfl) ?_
  refine mb_l_cons (ms_if_ne dX8_key_70 rfl rfl) ?_
  refine mb_l_cons (ms_iconst dX8_key_73 rfl rfl) ?_
  refine mb_l_cons (ms_goto dX8_key_74 rfl) ?_
  refine mb_l_cons (ms_iload dX8_key_77 rfl) ?_
  refine mb_l_cons (ms_if_ne dX8_key_79 rfl rfl) ?_
  refine mb_l_cons (ms_iconst dX8_key_82 rfl rfl) ?_
  refine mb_l_cons (ms_goto dX8_key_83 rfl) ?_
  refine mb_l_cons (ms_aload_n dX8_key_86 rfl rfl) ?_
  refine mb_l_cons (ms_getf (ci := 8) (kf := 5) hX (C := RX8) (T := TX8) (N := 26) rfl (by decide) mu_X8 (Or.inl mw_758) dX8_key_87 rfl) ?_
  refine mb_l_cons (ms_iload dX8_key_90 rfl) ?_
  refine mb_l_cons (ms_iald hX dX8_key_92 rfl) ?_
  refine mb_l_cons (ms_bipush dX8_key_93 rfl rfl) ?_
  refine mb_l_cons (ms_icmp_ne dX8_key_95 rfl rfl) ?_
  refine mb_l_cons (ms_aload_n dX8_key_98 rfl rfl) ?_
  refine mb_l_cons (ms_iload dX8_key_99 rfl) ?_
  refine mb_l_cons (ms_iload_n dX8_key_101 rfl rfl) ?_
  refine mb_l_cons (ms_callv (ci := 8) hX (y := 95) (y0 := yX8_isKeyAt) (bytes := cX8_isKeyAt) rfl (C := RX8) (T := TX8) (N := 26) rfl mq_X8_122_X8_isKeyAt mw_871 mw_873 mw_25 dX8_key_102 (fun _ _ _ h => nomatch h) rfl) ?_
  refine mb_l_cons (ms_if_ne dX8_key_105 rfl rfl) ?_
  refine mb_l_cons (ms_iconst dX8_key_108 rfl rfl) ?_
  refine mb_l_cons (ms_goto dX8_key_109 rfl) ?_
  refine mb_l_cons (ms_iconst dX8_key_112 rfl rfl) ?_
  refine mb_l_cons (ms_callv (ci := 8) hX (y := 86) (y0 := yX8_holds) (bytes := cX8_holds) rfl (C := RX8) (T := TX8) (N := 26) rfl mq_X8_112_X8_holds mw_841 mw_843 mw_21 dX8_key_113 (fun _ _ _ h => nomatch h) rfl) ?_
  refine mb_l_cons (ms_if_ne dX8_key_116 rfl rfl) ?_
  refine mb_l_cons (ms_iconst dX8_key_119 rfl rfl) ?_
  refine mb_l_cons (ms_iret dX8_key_120 rfl) ?_
  refine mb_l_cons (ms_aload_n dX8_key_121 rfl rfl) ?_
  refine mb_l_cons (ms_iload dX8_key_122 rfl) ?_
  refine mb_l_cons (ms_iload_n dX8_key_124 rfl rfl) ?_
  refine mb_l_cons (ms_callv (ci := 8) hX (y := 94) (y0 := yX8_keyAt) (bytes := cX8_keyAt) rfl (C := RX8) (T := TX8) (N := 26) rfl mq_X8_103_X8_keyAt mw_875 mw_877 mw_26 dX8_key_125 (fun _ _ _ h => nomatch h) rfl) ?_
  refine mb_l_cons (ms_istore dX8_key_128 rfl) ?_
  refine mb_l_cons (ms_aload_n dX8_key_130 rfl rfl) ?_
  refine mb_l_cons (ms_iload dX8_key_131 rfl) ?_
  refine mb_l_cons (ms_iload_n dX8_key_133 rfl rfl) ?_
  refine mb_l_cons (ms_callv (ci := 8) hX (y := 95) (y0 := yX8_isKeyAt) (bytes := cX8_isKeyAt) rfl (C := RX8) (T := TX8) (N := 26) rfl mq_X8_122_X8_isKeyAt mw_871 mw_873 mw_25 dX8_key_134 (fun _ _ _ h => nomatch h) rfl) ?_
  refine mb_l_cons (ms_if_ne dX8_key_137 rfl rfl) ?_
  refine mb_l_cons (ms_aload_n dX8_key_140 rfl rfl) ?_
  refine mb_l_cons (ms_getf (ci := 8) (kf := 5) hX (C := RX8) (T := TX8) (N := 26) rfl (by decide) mu_X8 (Or.inl mw_758) dX8_key_141 rfl) ?_
  refine mb_l_cons (ms_iload dX8_key_144 rfl) ?_
  refine mb_l_cons (ms_iald hX dX8_key_146 rfl) ?_
  refine mb_l_cons (ms_istore dX8_key_147 rfl) ?_
  refine mb_l_cons (ms_iload dX8_key_149 rfl) ?_
  refine mb_l_cons (ms_iload dX8_key_151 rfl) ?_
  refine mb_l_cons (ms_icmp_le dX8_key_153 rfl rfl) ?_
  refine mb_l_cons (ms_aload_n dX8_key_156 rfl rfl) ?_
  refine mb_l_cons (ms_bipush dX8_key_157 rfl rfl) ?_
  refine mb_l_cons (ms_iload dX8_key_159 rfl) ?_
  refine mb_l_cons (ms_imul dX8_key_161 rfl) ?_
  refine mb_l_cons (ms_iload dX8_key_162 rfl) ?_
  refine mb_l_cons (ms_iadd dX8_key_164 rfl) ?_
  refine mb_l_cons (ms_iconst dX8_key_165 rfl rfl) ?_
  refine mb_l_cons (ms_isub dX8_key_166 rfl) ?_
  refine mb_l_cons (ms_bipush dX8_key_167 rfl rfl) ?_
  refine mb_l_cons (ms_iload dX8_key_169 rfl) ?_
  refine mb_l_cons (ms_imul dX8_key_171 rfl) ?_
  refine mb_l_cons (ms_iload dX8_key_172 rfl) ?_
  refine mb_l_cons (ms_iadd dX8_key_174 rfl) ?_
  refine mb_l_cons (ms_callv (ci := 8) hX (y := 102) (y0 := yX8_copiesKey) (bytes := cX8_copiesKey) rfl (C := RX8) (T := TX8) (N := 26) rfl mq_X8_125_X8_copiesKey mw_879 mw_881 mw_27 dX8_key_175 (fun _ _ _ h => nomatch h) rfl) ?_
  refine mb_l_cons (ms_iinc dX8_key_178 rfl rfl) ?_
  refine mb_l_cons (ms_goto dX8_key_181 rfl) ?_
  refine mb_l_cons (ms_aload_n dX8_key_184 rfl rfl) ?_
  refine mb_l_cons (ms_getf (ci := 8) (kf := 5) hX (C := RX8) (T := TX8) (N := 26) rfl (by decide) mu_X8 (Or.inl mw_758) dX8_key_185 rfl) ?_
  refine mb_l_cons (ms_iload dX8_key_188 rfl) ?_
  refine mb_l_cons (ms_dup2 dX8_key_190 rfl) ?_
  refine mb_l_cons (ms_iald hX dX8_key_191 rfl) ?_
  refine mb_l_cons (ms_iconst dX8_key_192 rfl rfl) ?_
  refine mb_l_cons (ms_iadd dX8_key_193 rfl) ?_
  refine mb_l_cons (ms_iast hX dX8_key_194 rfl) ?_
  refine mb_l_cons (ms_aload_n dX8_key_195 rfl rfl) ?_
  refine mb_l_cons (ms_bipush dX8_key_196 rfl rfl) ?_
  refine mb_l_cons (ms_iload dX8_key_198 rfl) ?_
  refine mb_l_cons (ms_imul dX8_key_200 rfl) ?_
  refine mb_l_cons (ms_iload dX8_key_201 rfl) ?_
  refine mb_l_cons (ms_iadd dX8_key_203 rfl) ?_
  refine mb_l_cons (ms_iload_n dX8_key_204 rfl rfl) ?_
  refine mb_l_cons (ms_iload dX8_key_205 rfl) ?_
  refine mb_l_cons (ms_iload dX8_key_207 rfl) ?_
  refine mb_l_cons (ms_callv (ci := 8) hX (y := 101) (y0 := yX8_laysKey) (bytes := cX8_laysKey) rfl (C := RX8) (T := TX8) (N := 26) rfl mq_X8_118_X8_laysKey mw_883 mw_885 mw_28 dX8_key_209 (fun _ _ _ h => nomatch h) rfl) ?_
  refine mb_l_cons (ms_aload_n dX8_key_212 rfl rfl) ?_
  refine mb_l_cons (ms_getf (ci := 8) (kf := 5) hX (C := RX8) (T := TX8) (N := 26) rfl (by decide) mu_X8 (Or.inl mw_758) dX8_key_213 rfl) ?_
  refine mb_l_cons (ms_iload dX8_key_216 rfl) ?_
  refine mb_l_cons (ms_iald hX dX8_key_218 rfl) ?_
  refine mb_l_cons (ms_iret dX8_key_219 rfl) ?_
  exact mb_l_nil
theorem mr_X8_unkey (hX : mb_Fx l D cT s0 args0) : ∀ pc i, mb_look mc_X8_unkey pc = some i → mb_Snd l D cT s0 mb_mt RX8 "unkey" cX8_unkey 7 (some .boolean) [] pc i := by
  unfold mc_X8_unkey
  refine mb_l_cons (ms_aload_n dX8_unkey_0 rfl rfl) ?_
  refine mb_l_cons (ms_iload_n dX8_unkey_1 rfl rfl) ?_
  refine mb_l_cons (ms_iconst dX8_unkey_2 rfl rfl) ?_
  refine mb_l_cons (ms_iload_n dX8_unkey_3 rfl rfl) ?_
  refine mb_l_cons (ms_callv (ci := 8) hX (y := 93) (y0 := yX8_isBone) (bytes := cX8_isBone) rfl (C := RX8) (T := TX8) (N := 26) rfl mq_X8_115_X8_isBone mw_856 mw_858 mw_23 dX8_unkey_4 (fun _ _ _ h => nomatch h) rfl) ?_
  refine mb_l_cons (ms_istore dX8_unkey_7 rfl) ?_
  refine mb_l_cons (ms_iload dX8_unkey_9 rfl) ?_
  refine mb_l_cons (ms_if_eq dX8_unkey_11 rfl rfl) ?_
  refine mb_l_cons (ms_bipush dX8_unkey_14 rfl rfl) ?_
  refine mb_l_cons (ms_iload_n dX8_unkey_16 rfl rfl) ?_
  refine mb_l_cons (ms_imul dX8_unkey_17 rfl) ?_
  refine mb_l_cons (ms_iload_n dX8_unkey_18 rfl rfl) ?_
  refine mb_l_cons (ms_iadd dX8_unkey_19 rfl) ?_
  refine mb_l_cons (ms_goto dX8_unkey_20 rfl) ?_
  refine mb_l_cons (ms_iconst dX8_unkey_23 rfl rfl) ?_
  refine mb_l_cons (ms_istore dX8_unkey_24 rfl) ?_
  refine mb_l_cons (ms_aload_n dX8_unkey_26 rfl rfl) ?_
  refine mb_l_cons (ms_iload dX8_unkey_27 rfl) ?_
  refine mb_l_cons (ms_if_ne dX8_unkey_29 rfl rfl) ?_
  refine mb_l_cons (ms_iconst dX8_unkey_32 rfl rfl) ?_
  refine mb_l_cons (ms_goto dX8_unkey_33 rfl) ?_
  refine mb_l_cons (ms_iload_n dX8_unkey_36 rfl rfl) ?_
  refine mb_l_cons (ms_iconst dX8_unkey_37 rfl rfl) ?_
  refine mb_l_cons (ms_bipush dX8_unkey_38 rfl rfl) ?_
  refine mb_l_cons (ms_calls hX (y := 87) (y0 := yX8_isIn) (bytes := cX8_isIn) rfl mq_X8_81_X8_isIn mw_853 mw_854 dX8_unkey_40 rfl) ?_
  refine mb_l_cons (ms_if_ne dX8_unkey_43 rfl rfl) ?_
  refine mb_l_cons (ms_iconst dX8_unkey_46 rfl rfl) ?_
  refine mb_l_cons (ms_goto dX8_unkey_47 rfl) ?_
  refine mb_l_cons (ms_iconst dX8_unkey_50 rfl rfl) ?_
  refine mb_l_cons (ms_callv (ci := 8) hX (y := 86) (y0 := yX8_holds) (bytes := cX8_holds) rfl (C := RX8) (T := TX8) (N := 26) rfl mq_X8_112_X8_holds mw_841 mw_843 mw_21 dX8_unkey_51 (fun _ _ _ h => nomatch h) rfl) ?_
  refine mb_l_cons (ms_if_eq dX8_unkey_54 rfl rfl) ?_
  refine mb_l_cons (ms_aload_n dX8_unkey_57 rfl rfl) ?_
  refine mb_l_cons (ms_iload dX8_unkey_58 rfl) ?_
  refine mb_l_cons (ms_iload_n dX8_unkey_60 rfl rfl) ?_
  refine mb_l_cons (ms_callv (ci := 8) hX (y := 95) (y0 := yX8_isKeyAt) (bytes := cX8_isKeyAt) rfl (C := RX8) (T := TX8) (N := 26) rfl mq_X8_122_X8_isKeyAt mw_871 mw_873 mw_25 dX8_unkey_61 (fun _ _ _ h => nomatch h) rfl) ?_
  refine mb_l_cons (ms_if_ne dX8_unkey_64 rfl rfl) ?_
  refine mb_l_cons (ms_iconst dX8_unkey_67 rfl rfl) ?_
  refine mb_l_cons (ms_zret dX8_unkey_68 rfl) ?_
  refine mb_l_cons (ms_aload_n dX8_unkey_69 rfl rfl) ?_
  refine mb_l_cons (ms_getf (ci := 8) (kf := 5) hX (C := RX8) (T := TX8) (N := 26) rfl (by decide) mu_X8 (Or.inl mw_758) dX8_unkey_70 rfl) ?_
  refine mb_l_cons (ms_iload dX8_unkey_73 rfl) ?_
  refine mb_l_cons (ms_dup2 dX8_unkey_75 rfl) ?_
  refine mb_l_cons (ms_iald hX dX8_unkey_76 rfl) ?_
  refine mb_l_cons (ms_iconst dX8_unkey_77 rfl rfl) ?_
  refine mb_l_cons (ms_isub dX8_unkey_78 rfl) ?_
  refine mb_l_cons (ms_iast hX dX8_unkey_79 rfl) ?_
  refine mb_l_cons (ms_aload_n dX8_unkey_80 rfl rfl) ?_
  refine mb_l_cons (ms_iload dX8_unkey_81 rfl) ?_
  refine mb_l_cons (ms_iload_n dX8_unkey_83 rfl rfl) ?_
  refine mb_l_cons (ms_callv (ci := 8) hX (y := 94) (y0 := yX8_keyAt) (bytes := cX8_keyAt) rfl (C := RX8) (T := TX8) (N := 26) rfl mq_X8_103_X8_keyAt mw_875 mw_877 mw_26 dX8_unkey_84 (fun _ _ _ h => nomatch h) rfl) ?_
  refine mb_l_cons (ms_istore dX8_unkey_87 rfl) ?_
  refine mb_l_cons (ms_iload dX8_unkey_89 rfl) ?_
  refine mb_l_cons (ms_aload_n dX8_unkey_91 rfl rfl) ?_
  refine mb_l_cons (ms_getf (ci := 8) (kf := 5) hX (C := RX8) (T := TX8) (N := 26) rfl (by decide) mu_X8 (Or.inl mw_758) dX8_unkey_92 rfl) ?_
  refine mb_l_cons (ms_iload dX8_unkey_95 rfl) ?_
  refine mb_l_cons (ms_iald hX dX8_unkey_97 rfl) ?_
  refine mb_l_cons (ms_icmp_ge dX8_unkey_98 rfl rfl) ?_
  refine mb_l_cons (ms_aload_n dX8_unkey_101 rfl rfl) ?_
  refine mb_l_cons (ms_bipush dX8_unkey_102 rfl rfl) ?_
  refine mb_l_cons (ms_iload dX8_unkey_104 rfl) ?_
  refine mb_l_cons (ms_imul dX8_unkey_106 rfl) ?_
  refine mb_l_cons (ms_iload dX8_unkey_107 rfl) ?_
  refine mb_l_cons (ms_iadd dX8_unkey_109 rfl) ?_
  refine mb_l_cons (ms_iconst dX8_unkey_110 rfl rfl) ?_
  refine mb_l_cons (ms_iadd dX8_unkey_111 rfl) ?_
  refine mb_l_cons (ms_bipush dX8_unkey_112 rfl rfl) ?_
  refine mb_l_cons (ms_iload dX8_unkey_114 rfl) ?_
  refine mb_l_cons (ms_imul dX8_unkey_116 rfl) ?_
  refine mb_l_cons (ms_iload dX8_unkey_117 rfl) ?_
  refine mb_l_cons (ms_iadd dX8_unkey_119 rfl) ?_
  refine mb_l_cons (ms_callv (ci := 8) hX (y := 102) (y0 := yX8_copiesKey) (bytes := cX8_copiesKey) rfl (C := RX8) (T := TX8) (N := 26) rfl mq_X8_125_X8_copiesKey mw_879 mw_881 mw_27 dX8_unkey_120 (fun _ _ _ h => nomatch h) rfl) ?_
  refine mb_l_cons (ms_iinc dX8_unkey_123 rfl rfl) ?_
  refine mb_l_cons (ms_goto dX8_unkey_126 rfl) ?_
  refine mb_l_cons (ms_iconst dX8_unkey_129 rfl rfl) ?_
  refine mb_l_cons (ms_zret dX8_unkey_130 rfl) ?_
  exact mb_l_nil
theorem mr_X8_publish (hX : mb_Fx l D cT s0 args0) : ∀ pc i, mb_look mc_X8_publish pc = some i → mb_Snd l D cT s0 mb_mt RX8 "publish" cX8_publish 8 (some .int) [] pc i := by
  unfold mc_X8_publish
  refine mb_l_cons (ms_aload_n dX8_publish_0 rfl rfl) ?_
  refine mb_l_cons (ms_iload_n dX8_publish_1 rfl rfl) ?_
  refine mb_l_cons (ms_callv (ci := 8) hX (y := 88) (y0 := yX8_isAsset) (bytes := cX8_isAsset) rfl (C := RX8) (T := TX8) (N := 26) rfl mq_X8_92_X8_isAsset mw_849 mw_851 mw_22 dX8_publish_2 (fun _ _ _ h => nomatch h) rfl) ?_
  refine mb_l_cons (ms_istore_n dX8_publish_5 rfl rfl) ?_
  refine mb_l_cons (ms_aload_n dX8_publish_6 rfl rfl) ?_
  refine mb_l_cons (ms_iload_n dX8_publish_7 rfl rfl) ?_
  refine mb_l_cons (ms_if_ne dX8_publish_8 rfl rfl) ?_
  refine mb_l_cons (ms_iconst dX8_publish_11 rfl rfl) ?_
  refine mb_l_cons (ms_goto dX8_publish_12 rfl) ?_
  refine mb_l_cons (ms_aload_n dX8_publish_15 rfl rfl) ?_
  refine mb_l_cons (ms_getf (ci := 8) (kf := 2) hX (C := RX8) (T := TX8) (N := 26) rfl (by decide) mu_X8 (Or.inl mw_755) dX8_publish_16 rfl) ?_
  refine mb_l_cons (ms_iload_n dX8_publish_19 rfl rfl) ?_
  refine mb_l_cons (ms_iald hX dX8_publish_20 rfl) ?_
  refine mb_l_cons (ms_bipush dX8_publish_21 rfl rfl) ?_
  refine mb_l_cons (ms_icmp_eq dX8_publish_23 rfl rfl) ?_
  refine mb_l_cons (ms_aload_n dX8_publish_26 rfl rfl) ?_
  refine mb_l_cons (ms_getf (ci := 8) (kf := 3) hX (C := RX8) (T := TX8) (N := 26) rfl (by decide) mu_X8 (Or.inl mw_756) dX8_publish_27 rfl) ?_
  refine mb_l_cons (ms_iload_n dX8_publish_30 rfl rfl) ?_
  refine mb_l_cons (ms_iald hX dX8_publish_31 rfl) ?_
  refine mb_l_cons (ms_if_ne dX8_publish_32 rfl rfl) ?_
  refine mb_l_cons (ms_iconst dX8_publish_35 rfl rfl) ?_
  refine mb_l_cons (ms_goto dX8_publish_36 rfl) ?_
  refine mb_l_cons (ms_iconst dX8_publish_39 rfl rfl) ?_
  refine mb_l_cons (ms_callv (ci := 8) hX (y := 86) (y0 := yX8_holds) (bytes := cX8_holds) rfl (C := RX8) (T := TX8) (N := 26) rfl mq_X8_112_X8_holds mw_841 mw_843 mw_21 dX8_publish_40 (fun _ _ _ h => nomatch h) rfl) ?_
  refine mb_l_cons (ms_if_ne dX8_publish_43 rfl rfl) ?_
  refine mb_l_cons (ms_iconst dX8_publish_46 rfl rfl) ?_
  refine mb_l_cons (ms_iret dX8_publish_47 rfl) ?_
  refine mb_l_cons (ms_iload_n dX8_publish_48 rfl rfl) ?_
  refine mb_l_cons (ms_aload_n dX8_publish_49 rfl rfl) ?_
  refine mb_l_cons (ms_getf (ci := 8) (kf := 2) hX (C := RX8) (T := TX8) (N := 26) rfl (by decide) mu_X8 (Or.inl mw_755) dX8_publish_50 rfl) ?_
  refine mb_l_cons (ms_iload_n dX8_publish_53 rfl rfl) ?_
  refine mb_l_cons (ms_iald hX dX8_publish_54 rfl) ?_
  refine mb_l_cons (ms_calls hX (y := 91) (y0 := yX8_rigOf) (bytes := cX8_rigOf) rfl mq_X8_99_X8_rigOf mw_864 mw_865 dX8_publish_55 rfl) ?_
  refine mb_l_cons (ms_istore_n dX8_publish_58 rfl rfl) ?_
  refine mb_l_cons (ms_aload_n dX8_publish_59 rfl rfl) ?_
  refine mb_l_cons (ms_getf (ci := 8) (kf := 3) hX (C := RX8) (T := TX8) (N := 26) rfl (by decide) mu_X8 (Or.inl mw_756) dX8_publish_60 rfl) ?_
  refine mb_l_cons (ms_iload_n dX8_publish_63 rfl rfl) ?_
  refine mb_l_cons (ms_aload_n dX8_publish_64 rfl rfl) ?_
  refine mb_l_cons (ms_getf (ci := 8) (kf := 3) hX (C := RX8) (T := TX8) (N := 26) rfl (by decide) mu_X8 (Or.inl mw_756) dX8_publish_65 rfl) ?_
  refine mb_l_cons (ms_iload_n dX8_publish_68 rfl rfl) ?_
  refine mb_l_cons (ms_iald hX dX8_publish_69 rfl) ?_
  refine mb_l_cons (ms_iast hX dX8_publish_70 rfl) ?_
  refine mb_l_cons (ms_iconst dX8_publish_71 rfl rfl) ?_
  refine mb_l_cons (ms_istore dX8_publish_72 rfl) ?_
  refine mb_l_cons (ms_iload dX8_publish_74 rfl) ?_
  refine mb_l_cons (ms_aload_n dX8_publish_76 rfl rfl) ?_
  refine mb_l_cons (ms_getf (ci := 8) (kf := 3) hX (C := RX8) (T := TX8) (N := 26) rfl (by decide) mu_X8 (Or.inl mw_756) dX8_publish_77 rfl) ?_
  refine mb_l_cons (ms_iload_n dX8_publish_80 rfl rfl) ?_
  refine mb_l_cons (ms_iald hX dX8_publish_81 rfl) ?_
  refine mb_l_cons (ms_icmp_ge dX8_publish_82 rfl rfl) ?_
  refine mb_l_cons (ms_bipush dX8_publish_85 rfl rfl) ?_
  refine mb_l_cons (ms_iload_n dX8_publish_87 rfl rfl) ?_
  refine mb_l_cons (ms_imul dX8_publish_88 rfl) ?_
  refine mb_l_cons (ms_iload dX8_publish_89 rfl) ?_
  refine mb_l_cons (ms_iadd dX8_publish_91 rfl) ?_
  refine mb_l_cons (ms_istore dX8_publish_92 rfl) ?_
  refine mb_l_cons (ms_bipush dX8_publish_94 rfl rfl) ?_
  refine mb_l_cons (ms_iload_n dX8_publish_96 rfl rfl) ?_
  refine mb_l_cons (ms_imul dX8_publish_97 rfl) ?_
  refine mb_l_cons (ms_iload dX8_publish_98 rfl) ?_
  refine mb_l_cons (ms_iadd dX8_publish_100 rfl) ?_
  refine mb_l_cons (ms_istore dX8_publish_101 rfl) ?_
  refine mb_l_cons (ms_aload_n dX8_publish_103 rfl rfl) ?_
  refine mb_l_cons (ms_getf (ci := 8) (kf := 4) hX (C := RX8) (T := TX8) (N := 26) rfl (by decide) mu_X8 (Or.inl mw_757) dX8_publish_104 rfl) ?_
  refine mb_l_cons (ms_iload dX8_publish_107 rfl) ?_
  refine mb_l_cons (ms_aload_n dX8_publish_109 rfl rfl) ?_
  refine mb_l_cons (ms_getf (ci := 8) (kf := 4) hX (C := RX8) (T := TX8) (N := 26) rfl (by decide) mu_X8 (Or.inl mw_757) dX8_publish_110 rfl) ?_
  refine mb_l_cons (ms_iload dX8_publish_113 rfl) ?_
  refine mb_l_cons (ms_iald hX dX8_publish_115 rfl) ?_
  refine mb_l_cons (ms_iast hX dX8_publish_116 rfl) ?_
  refine mb_l_cons (ms_aload_n dX8_publish_117 rfl rfl) ?_
  refine mb_l_cons (ms_getf (ci := 8) (kf := 5) hX (C := RX8) (T := TX8) (N := 26) rfl (by decide) mu_X8 (Or.inl mw_758) dX8_publish_118 rfl) ?_
  refine mb_l_cons (ms_iload dX8_publish_121 rfl) ?_
  refine mb_l_cons (ms_aload_n dX8_publish_123 rfl rfl) ?_
  refine mb_l_cons (ms_getf (ci := 8) (kf := 5) hX (C := RX8) (T := TX8) (N := 26) rfl (by decide) mu_X8 (Or.inl mw_758) dX8_publish_124 rfl) ?_
  refine mb_l_cons (ms_iload dX8_publish_127 rfl) ?_
  refine mb_l_cons (ms_iald hX dX8_publish_129 rfl) ?_
  refine mb_l_cons (ms_iast hX dX8_publish_130 rfl) ?_
  refine mb_l_cons (ms_iconst dX8_publish_131 rfl rfl) ?_
  refine mb_l_cons (ms_istore dX8_publish_132 rfl) ?_
  refine mb_l_cons (ms_iload dX8_publish_134 rfl) ?_
  refine mb_l_cons (ms_aload_n dX8_publish_136 rfl rfl) ?_
  refine mb_l_cons (ms_getf (ci := 8) (kf := 5) hX (C := RX8) (T := TX8) (N := 26) rfl (by decide) mu_X8 (Or.inl mw_758) dX8_publish_137 rfl) ?_
  refine mb_l_cons (ms_iload dX8_publish_140 rfl) ?_
  refine mb_l_cons (ms_iald hX dX8_publish_142 rfl) ?_
  refine mb_l_cons (ms_icmp_ge dX8_publish_143 rfl rfl) ?_
  refine mb_l_cons (ms_aload_n dX8_publish_146 rfl rfl) ?_
  refine mb_l_cons (ms_bipush dX8_publish_147 rfl rfl) ?_
  refine mb_l_cons (ms_iload dX8_publish_149 rfl) ?_
  refine mb_l_cons (ms_imul dX8_publish_151 rfl) ?_
  refine mb_l_cons (ms_iload dX8_publish_152 rfl) ?_
  refine mb_l_cons (ms_iadd dX8_publish_154 rfl) ?_
  refine mb_l_cons (ms_bipush dX8_publish_155 rfl rfl) ?_
  refine mb_l_cons (ms_iload dX8_publish_157 rfl) ?_
  refine mb_l_cons (ms_imul dX8_publish_159 rfl) ?_
  refine mb_l_cons (ms_iload dX8_publish_160 rfl) ?_
  refine mb_l_cons (ms_iadd dX8_publish_162 rfl) ?_
  refine mb_l_cons (ms_callv (ci := 8) hX (y := 102) (y0 := yX8_copiesKey) (bytes := cX8_copiesKey) rfl (C := RX8) (T := TX8) (N := 26) rfl mq_X8_125_X8_copiesKey mw_879 mw_881 mw_27 dX8_publish_163 (fun _ _ _ h => nomatch h) rfl) ?_
  refine mb_l_cons (ms_iinc dX8_publish_166 rfl rfl) ?_
  refine mb_l_cons (ms_goto dX8_publish_169 rfl) ?_
  refine mb_l_cons (ms_iinc dX8_publish_172 rfl rfl) ?_
  refine mb_l_cons (ms_goto dX8_publish_175 rfl) ?_
  refine mb_l_cons (ms_aload_n dX8_publish_178 rfl rfl) ?_
  refine mb_l_cons (ms_getf (ci := 8) (kf := 2) hX (C := RX8) (T := TX8) (N := 26) rfl (by decide) mu_X8 (Or.inl mw_755) dX8_publish_179 rfl) ?_
  refine mb_l_cons (ms_iload_n dX8_publish_182 rfl rfl) ?_
  refine mb_l_cons (ms_dup2 dX8_publish_183 rfl) ?_
  refine mb_l_cons (ms_iald hX dX8_publish_184 rfl) ?_
  refine mb_l_cons (ms_iconst dX8_publish_185 rfl rfl) ?_
  refine mb_l_cons (ms_iadd dX8_publish_186 rfl) ?_
  refine mb_l_cons (ms_iast hX dX8_publish_187 rfl) ?_
  refine mb_l_cons (ms_aload_n dX8_publish_188 rfl rfl) ?_
  refine mb_l_cons (ms_getf (ci := 8) (kf := 2) hX (C := RX8) (T := TX8) (N := 26) rfl (by decide) mu_X8 (Or.inl mw_755) dX8_publish_189 rfl) ?_
  refine mb_l_cons (ms_iload_n dX8_publish_192 rfl rfl) ?_
  refine mb_l_cons (ms_iald hX dX8_publish_193 rfl) ?_
  refine mb_l_cons (ms_iconst dX8_publish_194 rfl rfl) ?_
  refine mb_l_cons (ms_isub dX8_publish_195 rfl) ?_
  refine mb_l_cons (ms_iret dX8_publish_196 rfl) ?_
  exact mb_l_nil
theorem mr_X8_poses (hX : mb_Fx l D cT s0 args0) : ∀ pc i, mb_look mc_X8_poses pc = some i → mb_Snd l D cT s0 mb_mt RX8 "poses" cX8_poses 6 (some .int) [] pc i := by
  unfold mc_X8_poses
  refine mb_l_cons (ms_aload_n dX8_poses_0 rfl rfl) ?_
  refine mb_l_cons (ms_iload_n dX8_poses_1 rfl rfl) ?_
  refine mb_l_cons (ms_iload_n dX8_poses_2 rfl rfl) ?_
  refine mb_l_cons (ms_iload_n dX8_poses_3 rfl rfl) ?_
  refine mb_l_cons (ms_callv (ci := 8) hX (y := 93) (y0 := yX8_isBone) (bytes := cX8_isBone) rfl (C := RX8) (T := TX8) (N := 26) rfl mq_X8_115_X8_isBone mw_856 mw_858 mw_23 dX8_poses_4 (fun _ _ _ h => nomatch h) rfl) ?_
  refine mb_l_cons (ms_istore dX8_poses_7 rfl) ?_
  refine mb_l_cons (ms_aload_n dX8_poses_9 rfl rfl) ?_
  refine mb_l_cons (ms_iload dX8_poses_10 rfl) ?_
  refine mb_l_cons (ms_if_ne dX8_poses_12 rfl rfl) ?_
  refine mb_l_cons (ms_iconst dX8_poses_15 rfl rfl) ?_
  refine mb_l_cons (ms_goto dX8_poses_16 rfl) ?_
  refine mb_l_cons (ms_iload dX8_poses_19 rfl) ?_
  refine mb_l_cons (ms_iconst dX8_poses_21 rfl rfl) ?_
  refine mb_l_cons (ms_bipush dX8_poses_22 rfl rfl) ?_
  refine mb_l_cons (ms_calls hX (y := 87) (y0 := yX8_isIn) (bytes := cX8_isIn) rfl mq_X8_81_X8_isIn mw_853 mw_854 dX8_poses_24 rfl) ?_
  refine mb_l_cons (ms_if_ne dX8_poses_27 rfl rfl) ?_
  refine mb_l_cons (ms_iconst dX8_poses_30 rfl rfl) ?_
  refine mb_l_cons (ms_goto dX8_poses_31 rfl) ?_
  refine mb_l_cons (ms_iconst dX8_poses_34 rfl rfl) ?_
  refine mb_l_cons (ms_callv (ci := 8) hX (y := 86) (y0 := yX8_holds) (bytes := cX8_holds) rfl (C := RX8) (T := TX8) (N := 26) rfl mq_X8_112_X8_holds mw_841 mw_843 mw_21 dX8_poses_35 (fun _ _ _ h => nomatch h) rfl) ?_
  refine mb_l_cons (ms_if_eq dX8_poses_38 rfl rfl) ?_
  refine mb_l_cons (ms_aload_n dX8_poses_41 rfl rfl) ?_
  refine mb_l_cons (ms_iload_n dX8_poses_42 rfl rfl) ?_
  refine mb_l_cons (ms_iload_n dX8_poses_43 rfl rfl) ?_
  refine mb_l_cons (ms_calls hX (y := 91) (y0 := yX8_rigOf) (bytes := cX8_rigOf) rfl mq_X8_99_X8_rigOf mw_864 mw_865 dX8_poses_44 rfl) ?_
  refine mb_l_cons (ms_iload_n dX8_poses_47 rfl rfl) ?_
  refine mb_l_cons (ms_iload dX8_poses_48 rfl) ?_
  refine mb_l_cons (ms_callv (ci := 8) hX (y := 98) (y0 := yX8_poseOf) (bytes := cX8_poseOf) rfl (C := RX8) (T := TX8) (N := 26) rfl mq_X8_129_X8_poseOf mw_903 mw_905 mw_30 dX8_poses_50 (fun _ _ _ h => nomatch h) rfl) ?_
  refine mb_l_cons (ms_goto dX8_poses_53 rfl) ?_
  refine mb_l_cons (ms_iconst dX8_poses_56 rfl rfl) ?_
  refine mb_l_cons (ms_iret dX8_poses_57 rfl) ?_
  exact mb_l_nil
theorem mr_X8_pose (hX : mb_Fx l D cT s0 args0) : ∀ pc i, mb_look mc_X8_pose pc = some i → mb_Snd l D cT s0 mb_mt RX8 "pose" cX8_pose 5 (some .int) [] pc i := by
  unfold mc_X8_pose
  refine mb_l_cons (ms_aload_n dX8_pose_0 rfl rfl) ?_
  refine mb_l_cons (ms_iload_n dX8_pose_1 rfl rfl) ?_
  refine mb_l_cons (ms_iload_n dX8_pose_2 rfl rfl) ?_
  refine mb_l_cons (ms_iload_n dX8_pose_3 rfl rfl) ?_
  refine mb_l_cons (ms_iload dX8_pose_4 rfl) ?_
  refine mb_l_cons (ms_callv (ci := 8) hX (y := 106) (y0 := yX8_poses) (bytes := cX8_poses) rfl (C := RX8) (T := TX8) (N := 26) rfl mq_X8_133_X8_poses mw_899 mw_901 mw_29 dX8_pose_6 (fun _ _ _ h => nomatch h) rfl) ?_
  refine mb_l_cons (ms_iret dX8_pose_9 rfl) ?_
  exact mb_l_nil
theorem mr_X8_poseAnew (hX : mb_Fx l D cT s0 args0) : ∀ pc i, mb_look mc_X8_poseAnew pc = some i → mb_Snd l D cT s0 mb_mt RX8 "poseAnew" cX8_poseAnew 5 (some .int) [] pc i := by
  unfold mc_X8_poseAnew
  refine mb_l_cons (ms_aload_n dX8_poseAnew_0 rfl rfl) ?_
  refine mb_l_cons (ms_iload_n dX8_poseAnew_1 rfl rfl) ?_
  refine mb_l_cons (ms_iload_n dX8_poseAnew_2 rfl rfl) ?_
  refine mb_l_cons (ms_iload_n dX8_poseAnew_3 rfl rfl) ?_
  refine mb_l_cons (ms_iload dX8_poseAnew_4 rfl) ?_
  refine mb_l_cons (ms_callv (ci := 8) hX (y := 106) (y0 := yX8_poses) (bytes := cX8_poses) rfl (C := RX8) (T := TX8) (N := 26) rfl mq_X8_133_X8_poses mw_899 mw_901 mw_29 dX8_poseAnew_6 (fun _ _ _ h => nomatch h) rfl) ?_
  refine mb_l_cons (ms_iret dX8_poseAnew_9 rfl) ?_
  exact mb_l_nil
theorem mr_X8_castsOf (hX : mb_Fx l D cT s0 args0) : ∀ pc i, mb_look mc_X8_castsOf pc = some i → mb_Snd l D cT s0 mb_mt RX8 "castsOf" cX8_castsOf 4 (some .int) [] pc i := by
  unfold mc_X8_castsOf
  refine mb_l_cons (ms_iconst dX8_castsOf_0 rfl rfl) ?_
  refine mb_l_cons (ms_istore_n dX8_castsOf_1 rfl rfl) ?_
  refine mb_l_cons (ms_iconst dX8_castsOf_2 rfl rfl) ?_
  refine mb_l_cons (ms_istore_n dX8_castsOf_3 rfl rfl) ?_
  refine mb_l_cons (ms_iload_n dX8_castsOf_4 rfl rfl) ?_
  refine mb_l_cons (ms_aload_n dX8_castsOf_5 rfl rfl) ?_
  refine mb_l_cons (ms_getf (ci := 8) (kf := 9) hX (C := RX8) (T := TX8) (N := 26) rfl (by decide) mu_X8 (Or.inl mw_762) dX8_castsOf_6 rfl) ?_
  refine mb_l_cons (ms_icmp_ge dX8_castsOf_9 rfl rfl) ?_
  refine mb_l_cons (ms_iload_n dX8_castsOf_12 rfl rfl) ?_
  refine mb_l_cons (ms_aload_n dX8_castsOf_13 rfl rfl) ?_
  refine mb_l_cons (ms_getf (ci := 8) (kf := 11) hX (C := RX8) (T := TX8) (N := 26) rfl (by decide) mu_X8 (Or.inl mw_764) dX8_castsOf_14 rfl) ?_
  refine mb_l_cons (ms_bipush dX8_castsOf_17 rfl rfl) ?_
  refine mb_l_cons (ms_iload_n dX8_castsOf_19 rfl rfl) ?_
  refine mb_l_cons (ms_imul dX8_castsOf_20 rfl) ?_
  refine mb_l_cons (ms_iload_n dX8_castsOf_21 rfl rfl) ?_
  refine mb_l_cons (ms_iadd dX8_castsOf_22 rfl) ?_
  refine mb_l_cons (ms_zald hX dX8_castsOf_23 rfl) ?_
  refine mb_l_cons (ms_if_eq dX8_castsOf_24 rfl rfl) ?_
  refine mb_l_cons (ms_iconst dX8_castsOf_27 rfl rfl) ?_
  refine mb_l_cons (ms_goto dX8_castsOf_28 rfl) ?_
  refine mb_l_cons (ms_iconst dX8_castsOf_31 rfl rfl) ?_
  refine mb_l_cons (ms_iadd dX8_castsOf_32 rfl) ?_
  refine mb_l_cons (ms_istore_n dX8_castsOf_33 rfl rfl) ?_
  refine mb_l_cons (ms_iinc dX8_castsOf_34 rfl rfl) ?_
  refine mb_l_cons (ms_goto dX8_castsOf_37 rfl) ?_
  refine mb_l_cons (ms_iload_n dX8_castsOf_40 rfl rfl) ?_
  refine mb_l_cons (ms_iret dX8_castsOf_41 rfl) ?_
  exact mb_l_nil
theorem mr_X8_ofAsset (hX : mb_Fx l D cT s0 args0) : ∀ pc i, mb_look mc_X8_ofAsset pc = some i → mb_Snd l D cT s0 mb_mt RX8 "ofAsset" cX8_ofAsset 3 (some .int) [] pc i := by
  unfold mc_X8_ofAsset
  refine mb_l_cons (ms_aload_n dX8_ofAsset_0 rfl rfl) ?_
  refine mb_l_cons (ms_aload_n dX8_ofAsset_1 rfl rfl) ?_
  refine mb_l_cons (ms_iload_n dX8_ofAsset_2 rfl rfl) ?_
  refine mb_l_cons (ms_callv (ci := 8) hX (y := 88) (y0 := yX8_isAsset) (bytes := cX8_isAsset) rfl (C := RX8) (T := TX8) (N := 26) rfl mq_X8_92_X8_isAsset mw_849 mw_851 mw_22 dX8_ofAsset_3 (fun _ _ _ h => nomatch h) rfl) ?_
  refine mb_l_cons (ms_if_eq dX8_ofAsset_6 rfl rfl) ?_
  refine mb_l_cons (ms_iload_n dX8_ofAsset_9 rfl rfl) ?_
  refine mb_l_cons (ms_iconst dX8_ofAsset_10 rfl rfl) ?_
  refine mb_l_cons (ms_iconst dX8_ofAsset_11 rfl rfl) ?_
  refine mb_l_cons (ms_calls hX (y := 87) (y0 := yX8_isIn) (bytes := cX8_isIn) rfl mq_X8_81_X8_isIn mw_853 mw_854 dX8_ofAsset_12 rfl) ?_
  refine mb_l_cons (ms_if_eq dX8_ofAsset_15 rfl rfl) ?_
  refine mb_l_cons (ms_iconst dX8_ofAsset_18 rfl rfl) ?_
  refine mb_l_cons (ms_goto dX8_ofAsset_19 rfl) ?_
  refine mb_l_cons (ms_iconst dX8_ofAsset_22 rfl rfl) ?_
  refine mb_l_cons (ms_callv (ci := 8) hX (y := 86) (y0 := yX8_holds) (bytes := cX8_holds) rfl (C := RX8) (T := TX8) (N := 26) rfl mq_X8_112_X8_holds mw_841 mw_843 mw_21 dX8_ofAsset_23 (fun _ _ _ h => nomatch h) rfl) ?_
  refine mb_l_cons (ms_if_ne dX8_ofAsset_26 rfl rfl) ?_
  refine mb_l_cons (ms_iconst dX8_ofAsset_29 rfl rfl) ?_
  refine mb_l_cons (ms_iret dX8_ofAsset_30 rfl) ?_
  refine mb_l_cons (ms_iload_n dX8_ofAsset_31 rfl rfl) ?_
  refine mb_l_cons (ms_if_ne dX8_ofAsset_32 rfl rfl) ?_
  refine mb_l_cons (ms_aload_n dX8_ofAsset_35 rfl rfl) ?_
  refine mb_l_cons (ms_getf (ci := 8) (kf := 3) hX (C := RX8) (T := TX8) (N := 26) rfl (by decide) mu_X8 (Or.inl mw_756) dX8_ofAsset_36 rfl) ?_
  refine mb_l_cons (ms_iload_n dX8_ofAsset_39 rfl rfl) ?_
  refine mb_l_cons (ms_iald hX dX8_ofAsset_40 rfl) ?_
  refine mb_l_cons (ms_goto dX8_ofAsset_41 rfl) ?_
  refine mb_l_cons (ms_iload_n dX8_ofAsset_44 rfl rfl) ?_
  refine mb_l_cons (ms_iconst dX8_ofAsset_45 rfl rfl) ?_
  refine mb_l_cons (ms_icmp_ne dX8_ofAsset_46 rfl rfl) ?_
  refine mb_l_cons (ms_aload_n dX8_ofAsset_49 rfl rfl) ?_
  refine mb_l_cons (ms_getf (ci := 8) (kf := 2) hX (C := RX8) (T := TX8) (N := 26) rfl (by decide) mu_X8 (Or.inl mw_755) dX8_ofAsset_50 rfl) ?_
  refine mb_l_cons (ms_iload_n dX8_ofAsset_53 rfl rfl) ?_
  refine mb_l_cons (ms_iald hX dX8_ofAsset_54 rfl) ?_
  refine mb_l_cons (ms_goto dX8_ofAsset_55 rfl) ?_
  refine mb_l_cons (ms_aload_n dX8_ofAsset_58 rfl rfl) ?_
  refine mb_l_cons (ms_iload_n dX8_ofAsset_59 rfl rfl) ?_
  refine mb_l_cons (ms_callv (ci := 8) hX (y := 109) (y0 := yX8_castsOf) (bytes := cX8_castsOf) rfl (C := RX8) (T := TX8) (N := 26) rfl mq_X8_137_X8_castsOf mw_922 mw_924 mw_32 dX8_ofAsset_60 (fun _ _ _ h => nomatch h) rfl) ?_
  refine mb_l_cons (ms_iret dX8_ofAsset_63 rfl) ?_
  exact mb_l_nil
theorem mr_X8_scene (hX : mb_Fx l D cT s0 args0) : ∀ pc i, mb_look mc_X8_scene pc = some i → mb_Snd l D cT s0 mb_mt RX8 "scene" cX8_scene 3 (some .int) [] pc i := by
  unfold mc_X8_scene
  refine mb_l_cons (ms_aload_n dX8_scene_0 rfl rfl) ?_
  refine mb_l_cons (ms_iload_n dX8_scene_1 rfl rfl) ?_
  refine mb_l_cons (ms_iconst dX8_scene_2 rfl rfl) ?_
  refine mb_l_cons (ms_bipush dX8_scene_3 rfl rfl) ?_
  refine mb_l_cons (ms_calls hX (y := 87) (y0 := yX8_isIn) (bytes := cX8_isIn) rfl mq_X8_81_X8_isIn mw_853 mw_854 dX8_scene_5 rfl) ?_
  refine mb_l_cons (ms_if_ne dX8_scene_8 rfl rfl) ?_
  refine mb_l_cons (ms_iconst dX8_scene_11 rfl rfl) ?_
  refine mb_l_cons (ms_goto dX8_scene_12 rfl) ?_
  refine mb_l_cons (ms_aload_n dX8_scene_15 rfl rfl) ?_
  refine mb_l_cons (ms_getf (ci := 8) (kf := 9) hX (C := RX8) (T := TX8) (N := 26) rfl (by decide) mu_X8 (Or.inl mw_762) dX8_scene_16 rfl) ?_
  refine mb_l_cons (ms_bipush dX8_scene_19 rfl rfl) ?_
  refine mb_l_cons (ms_icmp_ne dX8_scene_21 rfl rfl) ?_
  refine mb_l_cons (ms_iconst dX8_scene_24 rfl rfl) ?_
  refine mb_l_cons (ms_goto dX8_scene_25 rfl) ?_
  refine mb_l_cons (ms_iconst dX8_scene_28 rfl rfl) ?_
  refine mb_l_cons (ms_callv (ci := 8) hX (y := 86) (y0 := yX8_holds) (bytes := cX8_holds) rfl (C := RX8) (T := TX8) (N := 26) rfl mq_X8_112_X8_holds mw_841 mw_843 mw_21 dX8_scene_29 (fun _ _ _ h => nomatch h) rfl) ?_
  refine mb_l_cons (ms_if_ne dX8_scene_32 rfl rfl) ?_
  refine mb_l_cons (ms_iconst dX8_scene_35 rfl rfl) ?_
  refine mb_l_cons (ms_iret dX8_scene_36 rfl) ?_
  refine mb_l_cons (ms_aload_n dX8_scene_37 rfl rfl) ?_
  refine mb_l_cons (ms_getf (ci := 8) (kf := 10) hX (C := RX8) (T := TX8) (N := 26) rfl (by decide) mu_X8 (Or.inl mw_763) dX8_scene_38 rfl) ?_
  refine mb_l_cons (ms_aload_n dX8_scene_41 rfl rfl) ?_
  refine mb_l_cons (ms_getf (ci := 8) (kf := 9) hX (C := RX8) (T := TX8) (N := 26) rfl (by decide) mu_X8 (Or.inl mw_762) dX8_scene_42 rfl) ?_
  refine mb_l_cons (ms_iload_n dX8_scene_45 rfl rfl) ?_
  refine mb_l_cons (ms_iast hX dX8_scene_46 rfl) ?_
  refine mb_l_cons (ms_iconst dX8_scene_47 rfl rfl) ?_
  refine mb_l_cons (ms_istore_n dX8_scene_48 rfl rfl) ?_
  refine mb_l_cons (ms_iload_n dX8_scene_49 rfl rfl) ?_
  refine mb_l_cons (ms_iload_n dX8_scene_50 rfl rfl) ?_
  refine mb_l_cons (ms_icmp_ge dX8_scene_51 rfl rfl) ?_
  refine mb_l_cons (ms_aload_n dX8_scene_54 rfl rfl) ?_
  refine mb_l_cons (ms_getf (ci := 8) (kf := 15) hX (C := RX8) (T := TX8) (N := 26) rfl (by decide) mu_X8 (Or.inl mw_768) dX8_scene_55 rfl) ?_
  refine mb_l_cons (ms_bipush dX8_scene_58 rfl rfl) ?_
  refine mb_l_cons (ms_aload_n dX8_scene_60 rfl rfl) ?_
  refine mb_l_cons (ms_getf (ci := 8) (kf := 9) hX (C := RX8) (T := TX8) (N := 26) rfl (by decide) mu_X8 (Or.inl mw_762) dX8_scene_61 rfl) ?_
  refine mb_l_cons (ms_imul dX8_scene_64 rfl) ?_
  refine mb_l_cons (ms_iload_n dX8_scene_65 rfl rfl) ?_
  refine mb_l_cons (ms_iadd dX8_scene_66 rfl) ?_
  refine mb_l_cons (ms_iload_n dX8_scene_67 rfl rfl) ?_
  refine mb_l_cons (ms_iast hX dX8_scene_68 rfl) ?_
  refine mb_l_cons (ms_iinc dX8_scene_69 rfl rfl) ?_
  refine mb_l_cons (ms_goto dX8_scene_72 rfl) ?_
  refine mb_l_cons (ms_aload_n dX8_scene_75 rfl rfl) ?_
  refine mb_l_cons (ms_dup dX8_scene_76 rfl) ?_
  refine mb_l_cons (ms_getf (ci := 8) (kf := 9) hX (C := RX8) (T := TX8) (N := 26) rfl (by decide) mu_X8 (Or.inl mw_762) dX8_scene_77 rfl) ?_
  refine mb_l_cons (ms_iconst dX8_scene_80 rfl rfl) ?_
  refine mb_l_cons (ms_iadd dX8_scene_81 rfl) ?_
  refine mb_l_cons (ms_putf (ci := 8) (kf := 9) (z := 0) hX (C := RX8) (T := TX8) (N := 26) rfl (by decide) mu_X8 tyX8 tyX8_ok nmX8 (Or.inl ⟨rfl, rfl⟩) rfl (Or.inl mw_762) dX8_scene_82 rfl) ?_
  refine mb_l_cons (ms_aload_n dX8_scene_85 rfl rfl) ?_
  refine mb_l_cons (ms_getf (ci := 8) (kf := 9) hX (C := RX8) (T := TX8) (N := 26) rfl (by decide) mu_X8 (Or.inl mw_762) dX8_scene_86 rfl) ?_
  refine mb_l_cons (ms_iconst dX8_scene_89 rfl rfl) ?_
  refine mb_l_cons (ms_isub dX8_scene_90 rfl) ?_
  refine mb_l_cons (ms_iret dX8_scene_91 rfl) ?_
  exact mb_l_nil
theorem mr_X8_cast (hX : mb_Fx l D cT s0 args0) : ∀ pc i, mb_look mc_X8_cast pc = some i → mb_Snd l D cT s0 mb_mt RX8 "cast" cX8_cast 10 (some .int) [] pc i := by
  unfold mc_X8_cast
  refine mb_l_cons (ms_aload_n dX8_cast_0 rfl rfl) ?_
  refine mb_l_cons (ms_iload_n dX8_cast_1 rfl rfl) ?_
  refine mb_l_cons (ms_callv (ci := 8) hX (y := 89) (y0 := yX8_isScene) (bytes := cX8_isScene) rfl (C := RX8) (T := TX8) (N := 26) rfl mq_X8_88_X8_isScene mw_934 mw_936 mw_33 dX8_cast_2 (fun _ _ _ h => nomatch h) rfl) ?_
  refine mb_l_cons (ms_if_eq dX8_cast_5 rfl rfl) ?_
  refine mb_l_cons (ms_aload_n dX8_cast_8 rfl rfl) ?_
  refine mb_l_cons (ms_iload_n dX8_cast_9 rfl rfl) ?_
  refine mb_l_cons (ms_iload_n dX8_cast_10 rfl rfl) ?_
  refine mb_l_cons (ms_callv (ci := 8) hX (y := 92) (y0 := yX8_isRig) (bytes := cX8_isRig) rfl (C := RX8) (T := TX8) (N := 26) rfl mq_X8_95_X8_isRig mw_860 mw_862 mw_24 dX8_cast_11 (fun _ _ _ h => nomatch h) rfl) ?_
  refine mb_l_cons (ms_if_eq dX8_cast_14 rfl rfl) ?_
  refine mb_l_cons (ms_iconst dX8_cast_17 rfl rfl) ?_
  refine mb_l_cons (ms_goto dX8_cast_18 rfl) ?_
  refine mb_l_cons (ms_iconst dX8_cast_21 rfl rfl) ?_
  refine mb_l_cons (ms_istore dX8_cast_22 rfl) ?_
  refine mb_l_cons (ms_aload_n dX8_cast_24 rfl rfl) ?_
  refine mb_l_cons (ms_iload dX8_cast_25 rfl) ?_
  refine mb_l_cons (ms_if_ne dX8_cast_27 rfl rfl) ?_
  refine mb_l_cons (ms_iconst dX8_cast_30 rfl rfl) ?_
  refine mb_l_cons (ms_goto dX8_cast_31 rfl) ?_
  refine mb_l_cons (ms_iload dX8_cast_34 rfl) ?_
  refine mb_l_cons (ms_iconst dX8_cast_36 rfl rfl) ?_
  refine mb_l_cons (ms_bipush dX8_cast_37 rfl rfl) ?_
  refine mb_l_cons (ms_calls hX (y := 87) (y0 := yX8_isIn) (bytes := cX8_isIn) rfl mq_X8_81_X8_isIn mw_853 mw_854 dX8_cast_39 rfl) ?_
  refine mb_l_cons (ms_if_eq dX8_cast_42 rfl rfl) ?_
  refine mb_l_cons (ms_iload dX8_cast_45 rfl) ?_
  refine mb_l_cons (ms_iload dX8_cast_47 rfl) ?_
  refine mb_l_cons (ms_bipush dX8_cast_49 rfl rfl) ?_
  refine mb_l_cons (ms_calls hX (y := 87) (y0 := yX8_isIn) (bytes := cX8_isIn) rfl mq_X8_81_X8_isIn mw_853 mw_854 dX8_cast_51 rfl) ?_
  refine mb_l_cons (ms_if_ne dX8_cast_54 rfl rfl) ?_
  refine mb_l_cons (ms_iconst dX8_cast_57 rfl rfl) ?_
  refine mb_l_cons (ms_goto dX8_cast_58 rfl) ?_
  refine mb_l_cons (ms_iconst dX8_cast_61 rfl rfl) ?_
  refine mb_l_cons (ms_callv (ci := 8) hX (y := 86) (y0 := yX8_holds) (bytes := cX8_holds) rfl (C := RX8) (T := TX8) (N := 26) rfl mq_X8_112_X8_holds mw_841 mw_843 mw_21 dX8_cast_62 (fun _ _ _ h => nomatch h) rfl) ?_
  refine mb_l_cons (ms_if_ne dX8_cast_65 rfl rfl) ?_
  refine mb_l_cons (ms_iconst dX8_cast_68 rfl rfl) ?_
  refine mb_l_cons (ms_iret dX8_cast_69 rfl) ?_
  refine mb_l_cons (ms_bipush dX8_cast_70 rfl rfl) ?_
  refine mb_l_cons (ms_iload_n dX8_cast_72 rfl rfl) ?_
  refine mb_l_cons (ms_imul dX8_cast_73 rfl) ?_
  refine mb_l_cons (ms_iload_n dX8_cast_74 rfl rfl) ?_
  refine mb_l_cons (ms_iadd dX8_cast_75 rfl) ?_
  refine mb_l_cons (ms_istore dX8_cast_76 rfl) ?_
  refine mb_l_cons (ms_aload_n dX8_cast_78 rfl rfl) ?_
  refine mb_l_cons (ms_getf (ci := 8) (kf := 11) hX (C := RX8) (T := TX8) (N := 26) rfl (by decide) mu_X8 (Or.inl mw_764) dX8_cast_79 rfl) ?_
  refine mb_l_cons (ms_iload dX8_cast_82 rfl) ?_
  refine mb_l_cons (ms_iconst dX8_cast_84 rfl rfl) ?_
  refine mb_l_cons (ms_zast hX dX8_cast_85 rfl) ?_
  refine mb_l_cons (ms_aload_n dX8_cast_86 rfl rfl) ?_
  refine mb_l_cons (ms_getf (ci := 8) (kf := 12) hX (C := RX8) (T := TX8) (N := 26) rfl (by decide) mu_X8 (Or.inl mw_765) dX8_cast_87 rfl) ?_
  refine mb_l_cons (ms_iload dX8_cast_90 rfl) ?_
  refine mb_l_cons (ms_iload_n dX8_cast_92 rfl rfl) ?_
  refine mb_l_cons (ms_iast hX dX8_cast_93 rfl) ?_
  refine mb_l_cons (ms_aload_n dX8_cast_94 rfl rfl) ?_
  refine mb_l_cons (ms_getf (ci := 8) (kf := 13) hX (C := RX8) (T := TX8) (N := 26) rfl (by decide) mu_X8 (Or.inl mw_766) dX8_cast_95 rfl) ?_
  refine mb_l_cons (ms_iload dX8_cast_98 rfl) ?_
  refine mb_l_cons (ms_iload dX8_cast_100 rfl) ?_
  refine mb_l_cons (ms_iast hX dX8_cast_102 rfl) ?_
  refine mb_l_cons (ms_aload_n dX8_cast_103 rfl rfl) ?_
  refine mb_l_cons (ms_getf (ci := 8) (kf := 14) hX (C := RX8) (T := TX8) (N := 26) rfl (by decide) mu_X8 (Or.inl mw_767) dX8_cast_104 rfl) ?_
  refine mb_l_cons (ms_iload dX8_cast_107 rfl) ?_
  refine mb_l_cons (ms_iload dX8_cast_109 rfl) ?_
  refine mb_l_cons (ms_iast hX dX8_cast_111 rfl) ?_
  refine mb_l_cons (ms_iconst dX8_cast_112 rfl rfl) ?_
  refine mb_l_cons (ms_istore dX8_cast_113 rfl) ?_
  refine mb_l_cons (ms_iconst dX8_cast_115 rfl rfl) ?_
  refine mb_l_cons (ms_istore dX8_cast_116 rfl) ?_
  refine mb_l_cons (ms_iload dX8_cast_118 rfl) ?_
  refine mb_l_cons (ms_aload_n dX8_cast_120 rfl rfl) ?_
  refine mb_l_cons (ms_getf (ci := 8) (kf := 1) hX (C := RX8) (T := TX8) (N := 26) rfl (by decide) mu_X8 (Or.inl mw_754) dX8_cast_121 rfl) ?_
  refine mb_l_cons (ms_icmp_ge dX8_cast_124 rfl rfl) ?_
  refine mb_l_cons (ms_iload dX8_cast_127 rfl) ?_
  refine mb_l_cons (ms_aload_n dX8_cast_129 rfl rfl) ?_
  refine mb_l_cons (ms_getf (ci := 8) (kf := 11) hX (C := RX8) (T := TX8) (N := 26) rfl (by decide) mu_X8 (Or.inl mw_764) dX8_cast_130 rfl) ?_
  refine mb_l_cons (ms_bipush dX8_cast_133 rfl rfl) ?_
  refine mb_l_cons (ms_iload_n dX8_cast_135 rfl rfl) ?_
  refine mb_l_cons (ms_imul dX8_cast_136 rfl) ?_
  refine mb_l_cons (ms_iload dX8_cast_137 rfl) ?_
  refine mb_l_cons (ms_iadd dX8_cast_139 rfl) ?_
  refine mb_l_cons (ms_zald hX dX8_cast_140 rfl) ?_
  refine mb_l_cons (ms_if_eq dX8_cast_141 rfl rfl) ?_
  refine mb_l_cons (ms_iconst dX8_cast_144 rfl rfl) ?_
  refine mb_l_cons (ms_goto dX8_cast_145 rfl) ?_
  refine mb_l_cons (ms_iconst dX8_cast_148 rfl rfl) ?_
  refine mb_l_cons (ms_iadd dX8_cast_149 rfl) ?_
  refine mb_l_cons (ms_istore dX8_cast_150 rfl) ?_
  refine mb_l_cons (ms_iinc dX8_cast_152 rfl rfl) ?_
  refine mb_l_cons (ms_goto dX8_cast_155 rfl) ?_
  refine mb_l_cons (ms_iload dX8_cast_158 rfl) ?_
  refine mb_l_cons (ms_iret dX8_cast_160 rfl) ?_
  exact mb_l_nil
theorem mr_X8_goesTo (hX : mb_Fx l D cT s0 args0) : ∀ pc i, mb_look mc_X8_goesTo pc = some i → mb_Snd l D cT s0 mb_mt RX8 "goesTo" cX8_goesTo 4 none [] pc i := by
  unfold mc_X8_goesTo
  refine mb_l_cons (ms_aload_n dX8_goesTo_0 rfl rfl) ?_
  refine mb_l_cons (ms_getf (ci := 8) (kf := 15) hX (C := RX8) (T := TX8) (N := 26) rfl (by decide) mu_X8 (Or.inl mw_768) dX8_goesTo_1 rfl) ?_
  refine mb_l_cons (ms_iload_n dX8_goesTo_4 rfl rfl) ?_
  refine mb_l_cons (ms_aload_n dX8_goesTo_5 rfl rfl) ?_
  refine mb_l_cons (ms_getf (ci := 8) (kf := 15) hX (C := RX8) (T := TX8) (N := 26) rfl (by decide) mu_X8 (Or.inl mw_768) dX8_goesTo_6 rfl) ?_
  refine mb_l_cons (ms_iload_n dX8_goesTo_9 rfl rfl) ?_
  refine mb_l_cons (ms_iald hX dX8_goesTo_10 rfl) ?_
  refine mb_l_cons (ms_iast hX dX8_goesTo_11 rfl) ?_
  refine mb_l_cons (ms_aload_n dX8_goesTo_12 rfl rfl) ?_
  refine mb_l_cons (ms_getf (ci := 8) (kf := 16) hX (C := RX8) (T := TX8) (N := 26) rfl (by decide) mu_X8 (Or.inl mw_769) dX8_goesTo_13 rfl) ?_
  refine mb_l_cons (ms_iload_n dX8_goesTo_16 rfl rfl) ?_
  refine mb_l_cons (ms_aload_n dX8_goesTo_17 rfl rfl) ?_
  refine mb_l_cons (ms_getf (ci := 8) (kf := 16) hX (C := RX8) (T := TX8) (N := 26) rfl (by decide) mu_X8 (Or.inl mw_769) dX8_goesTo_18 rfl) ?_
  refine mb_l_cons (ms_iload_n dX8_goesTo_21 rfl rfl) ?_
  refine mb_l_cons (ms_iald hX dX8_goesTo_22 rfl) ?_
  refine mb_l_cons (ms_iast hX dX8_goesTo_23 rfl) ?_
  refine mb_l_cons (ms_iconst dX8_goesTo_24 rfl rfl) ?_
  refine mb_l_cons (ms_istore_n dX8_goesTo_25 rfl rfl) ?_
  refine mb_l_cons (ms_iload_n dX8_goesTo_26 rfl rfl) ?_
  refine mb_l_cons (ms_bipush dX8_goesTo_27 rfl rfl) ?_
  refine mb_l_cons (ms_icmp_ge dX8_goesTo_29 rfl rfl) ?_
  refine mb_l_cons (ms_aload_n dX8_goesTo_32 rfl rfl) ?_
  refine mb_l_cons (ms_getf (ci := 8) (kf := 17) hX (C := RX8) (T := TX8) (N := 26) rfl (by decide) mu_X8 (Or.inl mw_770) dX8_goesTo_33 rfl) ?_
  refine mb_l_cons (ms_bipush dX8_goesTo_36 rfl rfl) ?_
  refine mb_l_cons (ms_iload_n dX8_goesTo_38 rfl rfl) ?_
  refine mb_l_cons (ms_imul dX8_goesTo_39 rfl) ?_
  refine mb_l_cons (ms_iload_n dX8_goesTo_40 rfl rfl) ?_
  refine mb_l_cons (ms_iadd dX8_goesTo_41 rfl) ?_
  refine mb_l_cons (ms_aload_n dX8_goesTo_42 rfl rfl) ?_
  refine mb_l_cons (ms_getf (ci := 8) (kf := 17) hX (C := RX8) (T := TX8) (N := 26) rfl (by decide) mu_X8 (Or.inl mw_770) dX8_goesTo_43 rfl) ?_
  refine mb_l_cons (ms_bipush dX8_goesTo_46 rfl rfl) ?_
  refine mb_l_cons (ms_iload_n dX8_goesTo_48 rfl rfl) ?_
  refine mb_l_cons (ms_imul dX8_goesTo_49 rfl) ?_
  refine mb_l_cons (ms_iload_n dX8_goesTo_50 rfl rfl) ?_
  refine mb_l_cons (ms_iadd dX8_goesTo_51 rfl) ?_
  refine mb_l_cons (ms_iald hX dX8_goesTo_52 rfl) ?_
  refine mb_l_cons (ms_iast hX dX8_goesTo_53 rfl) ?_
  refine mb_l_cons (ms_aload_n dX8_goesTo_54 rfl rfl) ?_
  refine mb_l_cons (ms_getf (ci := 8) (kf := 18) hX (C := RX8) (T := TX8) (N := 26) rfl (by decide) mu_X8 (Or.inl mw_771) dX8_goesTo_55 rfl) ?_
  refine mb_l_cons (ms_bipush dX8_goesTo_58 rfl rfl) ?_
  refine mb_l_cons (ms_iload_n dX8_goesTo_60 rfl rfl) ?_
  refine mb_l_cons (ms_imul dX8_goesTo_61 rfl) ?_
  refine mb_l_cons (ms_iload_n dX8_goesTo_62 rfl rfl) ?_
  refine mb_l_cons (ms_iadd dX8_goesTo_63 rfl) ?_
  refine mb_l_cons (ms_aload_n dX8_goesTo_64 rfl rfl) ?_
  refine mb_l_cons (ms_getf (ci := 8) (kf := 18) hX (C := RX8) (T := TX8) (N := 26) rfl (by decide) mu_X8 (Or.inl mw_771) dX8_goesTo_65 rfl) ?_
  refine mb_l_cons (ms_bipush dX8_goesTo_68 rfl rfl) ?_
  refine mb_l_cons (ms_iload_n dX8_goesTo_70 rfl rfl) ?_
  refine mb_l_cons (ms_imul dX8_goesTo_71 rfl) ?_
  refine mb_l_cons (ms_iload_n dX8_goesTo_72 rfl rfl) ?_
  refine mb_l_cons (ms_iadd dX8_goesTo_73 rfl) ?_
  refine mb_l_cons (ms_iald hX dX8_goesTo_74 rfl) ?_
  refine mb_l_cons (ms_iast hX dX8_goesTo_75 rfl) ?_
  refine mb_l_cons (ms_iinc dX8_goesTo_76 rfl rfl) ?_
  refine mb_l_cons (ms_goto dX8_goesTo_79 rfl) ?_
  refine mb_l_cons (ms_iconst dX8_goesTo_82 rfl rfl) ?_
  refine mb_l_cons (ms_istore_n dX8_goesTo_83 rfl rfl) ?_
  refine mb_l_cons (ms_iload_n dX8_goesTo_84 rfl rfl) ?_
  refine mb_l_cons (ms_bipush dX8_goesTo_85 rfl rfl) ?_
  refine mb_l_cons (ms_icmp_ge dX8_goesTo_87 rfl rfl) ?_
  refine mb_l_cons (ms_aload_n dX8_goesTo_90 rfl rfl) ?_
  refine mb_l_cons (ms_getf (ci := 8) (kf := 19) hX (C := RX8) (T := TX8) (N := 26) rfl (by decide) mu_X8 (Or.inl mw_772) dX8_goesTo_91 rfl) ?_
  refine mb_l_cons (ms_bipush dX8_goesTo_94 rfl rfl) ?_
  refine mb_l_cons (ms_iload_n dX8_goesTo_96 rfl rfl) ?_
  refine mb_l_cons (ms_imul dX8_goesTo_97 rfl) ?_
  refine mb_l_cons (ms_iload_n dX8_goesTo_98 rfl rfl) ?_
  refine mb_l_cons (ms_iadd dX8_goesTo_99 rfl) ?_
  refine mb_l_cons (ms_aload_n dX8_goesTo_100 rfl rfl) ?_
  refine mb_l_cons (ms_getf (ci := 8) (kf := 19) hX (C := RX8) (T := TX8) (N := 26) rfl (by decide) mu_X8 (Or.inl mw_772) dX8_goesTo_101 rfl) ?_
  refine mb_l_cons (ms_bipush dX8_goesTo_104 rfl rfl) ?_
  refine mb_l_cons (ms_iload_n dX8_goesTo_106 rfl rfl) ?_
  refine mb_l_cons (ms_imul dX8_goesTo_107 rfl) ?_
  refine mb_l_cons (ms_iload_n dX8_goesTo_108 rfl rfl) ?_
  refine mb_l_cons (ms_iadd dX8_goesTo_109 rfl) ?_
  refine mb_l_cons (ms_iald hX dX8_goesTo_110 rfl) ?_
  refine mb_l_cons (ms_iast hX dX8_goesTo_111 rfl) ?_
  refine mb_l_cons (ms_iinc dX8_goesTo_112 rfl rfl) ?_
  refine mb_l_cons (ms_goto dX8_goesTo_115 rfl) ?_
  refine mb_l_cons (ms_vret dX8_goesTo_118 rfl) ?_
  exact mb_l_nil
theorem mr_X8_carries (hX : mb_Fx l D cT s0 args0) : ∀ pc i, mb_look mc_X8_carries pc = some i → mb_Snd l D cT s0 mb_mt RX8 "carries" cX8_carries 6 none [] pc i := by
  unfold mc_X8_carries
  refine mb_l_cons (ms_aload_n dX8_carries_0 rfl rfl) ?_
  refine mb_l_cons (ms_getf (ci := 8) (kf := 23) hX (C := RX8) (T := TX8) (N := 26) rfl (by decide) mu_X8 (Or.inl mw_776) dX8_carries_1 rfl) ?_
  refine mb_l_cons (ms_iload_n dX8_carries_4 rfl rfl) ?_
  refine mb_l_cons (ms_iald hX dX8_carries_5 rfl) ?_
  refine mb_l_cons (ms_istore dX8_carries_6 rfl) ?_
  refine mb_l_cons (ms_iload dX8_carries_8 rfl) ?_
  refine mb_l_cons (ms_iload_n dX8_carries_10 rfl rfl) ?_
  refine mb_l_cons (ms_iload_n dX8_carries_11 rfl rfl) ?_
  refine mb_l_cons (ms_iadd dX8_carries_12 rfl) ?_
  refine mb_l_cons (ms_icmp_lt dX8_carries_13 rfl rfl) ?_
  refine mb_l_cons (ms_aload_n dX8_carries_16 rfl rfl) ?_
  refine mb_l_cons (ms_getf (ci := 8) (kf := 23) hX (C := RX8) (T := TX8) (N := 26) rfl (by decide) mu_X8 (Or.inl mw_776) dX8_carries_17 rfl) ?_
  refine mb_l_cons (ms_iload_n dX8_carries_20 rfl rfl) ?_
  refine mb_l_cons (ms_iload dX8_carries_21 rfl) ?_
  refine mb_l_cons (ms_iload_n dX8_carries_23 rfl rfl) ?_
  refine mb_l_cons (ms_isub dX8_carries_24 rfl) ?_
  refine mb_l_cons (ms_iast hX dX8_carries_25 rfl) ?_
  refine mb_l_cons (ms_goto dX8_carries_26 rfl) ?_
  refine mb_l_cons (ms_iload dX8_carries_29 rfl) ?_
  refine mb_l_cons (ms_iload_n dX8_carries_31 rfl rfl) ?_
  refine mb_l_cons (ms_icmp_lt dX8_carries_32 rfl rfl) ?_
  refine mb_l_cons (ms_aload_n dX8_carries_35 rfl rfl) ?_
  refine mb_l_cons (ms_getf (ci := 8) (kf := 23) hX (C := RX8) (T := TX8) (N := 26) rfl (by decide) mu_X8 (Or.inl mw_776) dX8_carries_36 rfl) ?_
  refine mb_l_cons (ms_iload_n dX8_carries_39 rfl rfl) ?_
  refine mb_l_cons (ms_iload_n dX8_carries_40 rfl rfl) ?_
  refine mb_l_cons (ms_iload dX8_carries_41 rfl) ?_
  refine mb_l_cons (ms_icmp_ge dX8_carries_43 rfl rfl) ?_
  refine mb_l_cons (ms_iload_n dX8_carries_46 rfl rfl) ?_
  refine mb_l_cons (ms_goto dX8_carries_47 rfl) ?_
  refine mb_l_cons (ms_iload dX8_carries_50 rfl) ?_
  refine mb_l_cons (ms_iconst dX8_carries_52 rfl rfl) ?_
  refine mb_l_cons (ms_isub dX8_carries_53 rfl) ?_
  refine mb_l_cons (ms_iast hX dX8_carries_54 rfl) ?_
  refine mb_l_cons (ms_aload_n dX8_carries_55 rfl rfl) ?_
  refine mb_l_cons (ms_getf (ci := 8) (kf := 25) hX (C := RX8) (T := TX8) (N := 26) rfl (by decide) mu_X8 (Or.inl mw_778) dX8_carries_56 rfl) ?_
  refine mb_l_cons (ms_iload_n dX8_carries_59 rfl rfl) ?_
  refine mb_l_cons (ms_dup2 dX8_carries_60 rfl) ?_
  refine mb_l_cons (ms_iald hX dX8_carries_61 rfl) ?_
  refine mb_l_cons (ms_iconst dX8_carries_62 rfl rfl) ?_
  refine mb_l_cons (ms_iadd dX8_carries_63 rfl) ?_
  refine mb_l_cons (ms_iast hX dX8_carries_64 rfl) ?_
  refine mb_l_cons (ms_vret dX8_carries_65 rfl) ?_
  exact mb_l_nil
theorem mr_X8_cut (hX : mb_Fx l D cT s0 args0) : ∀ pc i, mb_look mc_X8_cut pc = some i → mb_Snd l D cT s0 mb_mt RX8 "cut" cX8_cut 7 (some .int) [] pc i := by
  unfold mc_X8_cut
  refine mb_l_cons (ms_aload_n dX8_cut_0 rfl rfl) ?_
  refine mb_l_cons (ms_iload_n dX8_cut_1 rfl rfl) ?_
  refine mb_l_cons (ms_iload_n dX8_cut_2 rfl rfl) ?_
  refine mb_l_cons (ms_callv (ci := 8) hX (y := 90) (y0 := yX8_isFrame) (bytes := cX8_isFrame) rfl (C := RX8) (T := TX8) (N := 26) rfl mq_X8_141_X8_isFrame mw_942 mw_944 mw_34 dX8_cut_3 (fun _ _ _ h => nomatch h) rfl) ?_
  refine mb_l_cons (ms_istore dX8_cut_6 rfl) ?_
  refine mb_l_cons (ms_iload dX8_cut_8 rfl) ?_
  refine mb_l_cons (ms_if_eq dX8_cut_10 rfl rfl) ?_
  refine mb_l_cons (ms_iload_n dX8_cut_13 rfl rfl) ?_
  refine mb_l_cons (ms_aload_n dX8_cut_14 rfl rfl) ?_
  refine mb_l_cons (ms_getf (ci := 8) (kf := 10) hX (C := RX8) (T := TX8) (N := 26) rfl (by decide) mu_X8 (Or.inl mw_763) dX8_cut_15 rfl) ?_
  refine mb_l_cons (ms_iload_n dX8_cut_18 rfl rfl) ?_
  refine mb_l_cons (ms_iald hX dX8_cut_19 rfl) ?_
  refine mb_l_cons (ms_iload_n dX8_cut_20 rfl rfl) ?_
  refine mb_l_cons (ms_isub dX8_cut_21 rfl) ?_
  refine mb_l_cons (ms_icmp_gt dX8_cut_22 rfl rfl) ?_
  refine mb_l_cons (ms_iload_n dX8_cut_25 rfl rfl) ?_
  refine mb_l_cons (ms_aload_n dX8_cut_26 rfl rfl) ?_
  refine mb_l_cons (ms_getf (ci := 8) (kf := 10) hX (C := RX8) (T := TX8) (N := 26) rfl (by decide) mu_X8 (Or.inl mw_763) dX8_cut_27 rfl) ?_
  refine mb_l_cons (ms_iload_n dX8_cut_30 rfl rfl) ?_
  refine mb_l_cons (ms_iald hX dX8_cut_31 rfl) ?_
  refine mb_l_cons (ms_icmp_ge dX8_cut_32 rfl rfl) ?_
  refine mb_l_cons (ms_iconst dX8_cut_35 rfl rfl) ?_
  refine mb_l_cons (ms_goto dX8_cut_36 rfl) ?_
  refine mb_l_cons (ms_iconst dX8_cut_39 rfl rfl) ?_
  refine mb_l_cons (ms_istore dX8_cut_40 rfl) ?_
  refine mb_l_cons (ms_aload_n dX8_cut_42 rfl rfl) ?_
  refine mb_l_cons (ms_iload dX8_cut_43 rfl) ?_
  refine mb_l_cons (ms_if_ne dX8_cut_45 rfl rfl) ?_
  refine mb_l_cons (ms_iconst dX8_cut_48 rfl rfl) ?_
  refine mb_l_cons (ms_goto dX8_cut_49 rfl) ?_
  refine mb_l_cons (ms_iload_n dX8_cut_52 rfl rfl) ?_
  refine mb_l_cons (ms_iconst dX8_cut_53 rfl rfl) ?_
  refine mb_l_cons (ms_icmp_ge dX8_cut_54 rfl rfl) ?_
  refine mb_l_cons (ms_iconst dX8_cut_57 rfl rfl) ?_
  refine mb_l_cons (ms_goto dX8_cut_58 rfl) ?_
  refine mb_l_cons (ms_iload dX8_cut_61 rfl) ?_
  refine mb_l_cons (ms_if_ne dX8_cut_63 rfl rfl) ?_
  refine mb_l_cons (ms_iconst dX8_cut_66 rfl rfl) ?_
  refine mb_l_cons (ms_goto dX8_cut_67 rfl) ?_
  refine mb_l_cons (ms_iconst dX8_cut_70 rfl rfl) ?_
  refine mb_l_cons (ms_callv (ci := 8) hX (y := 86) (y0 := yX8_holds) (bytes := cX8_holds) rfl (C := RX8) (T := TX8) (N := 26) rfl mq_X8_112_X8_holds mw_841 mw_843 mw_21 dX8_cut_71 (fun _ _ _ h => nomatch h) rfl) ?_
  refine mb_l_cons (ms_if_ne dX8_cut_74 rfl rfl) ?_
  refine mb_l_cons (ms_iconst dX8_cut_77 rfl rfl) ?_
  refine mb_l_cons (ms_iret dX8_cut_78 rfl) ?_
  refine mb_l_cons (ms_aload_n dX8_cut_79 rfl rfl) ?_
  refine mb_l_cons (ms_getf (ci := 8) (kf := 10) hX (C := RX8) (T := TX8) (N := 26) rfl (by decide) mu_X8 (Or.inl mw_763) dX8_cut_80 rfl) ?_
  refine mb_l_cons (ms_iload_n dX8_cut_83 rfl rfl) ?_
  refine mb_l_cons (ms_dup2 dX8_cut_84 rfl) ?_
  refine mb_l_cons (ms_iald hX dX8_cut_85 rfl) ?_
  refine mb_l_cons (ms_iload_n dX8_cut_86 rfl rfl) ?_
  refine mb_l_cons (ms_isub dX8_cut_87 rfl) ?_
  refine mb_l_cons (ms_iast hX dX8_cut_88 rfl) ?_
  refine mb_l_cons (ms_iload_n dX8_cut_89 rfl rfl) ?_
  refine mb_l_cons (ms_istore dX8_cut_90 rfl) ?_
  refine mb_l_cons (ms_iload dX8_cut_92 rfl) ?_
  refine mb_l_cons (ms_aload_n dX8_cut_94 rfl rfl) ?_
  refine mb_l_cons (ms_getf (ci := 8) (kf := 10) hX (C := RX8) (T := TX8) (N := 26) rfl (by decide) mu_X8 (Or.inl mw_763) dX8_cut_95 rfl) ?_
  refine mb_l_cons (ms_iload_n dX8_cut_98 rfl rfl) ?_
  refine mb_l_cons (ms_iald hX dX8_cut_99 rfl) ?_
  refine mb_l_cons (ms_icmp_ge dX8_cut_100 rfl rfl) ?_
  refine mb_l_cons (ms_aload_n dX8_cut_103 rfl rfl) ?_
  refine mb_l_cons (ms_bipush dX8_cut_104 rfl rfl) ?_
  refine mb_l_cons (ms_iload_n dX8_cut_106 rfl rfl) ?_
  refine mb_l_cons (ms_imul dX8_cut_107 rfl) ?_
  refine mb_l_cons (ms_iload dX8_cut_108 rfl) ?_
  refine mb_l_cons (ms_iadd dX8_cut_110 rfl) ?_
  refine mb_l_cons (ms_iload_n dX8_cut_111 rfl rfl) ?_
  refine mb_l_cons (ms_iadd dX8_cut_112 rfl) ?_
  refine mb_l_cons (ms_bipush dX8_cut_113 rfl rfl) ?_
  refine mb_l_cons (ms_iload_n dX8_cut_115 rfl rfl) ?_
  refine mb_l_cons (ms_imul dX8_cut_116 rfl) ?_
  refine mb_l_cons (ms_iload dX8_cut_117 rfl) ?_
  refine mb_l_cons (ms_iadd dX8_cut_119 rfl) ?_
  refine mb_l_cons (ms_callv (ci := 8) hX (y := 113) (y0 := yX8_goesTo) (bytes := cX8_goesTo) rfl (C := RX8) (T := TX8) (N := 26) rfl mq_X8_144_X8_goesTo mw_946 mw_948 mw_35 dX8_cut_120 (fun _ _ _ h => nomatch h) rfl) ?_
  refine mb_l_cons (ms_iinc dX8_cut_123 rfl rfl) ?_
  refine mb_l_cons (ms_goto dX8_cut_126 rfl) ?_
  refine mb_l_cons (ms_iconst dX8_cut_129 rfl rfl) ?_
  refine mb_l_cons (ms_istore dX8_cut_130 rfl) ?_
  refine mb_l_cons (ms_iload dX8_cut_132 rfl) ?_
  refine mb_l_cons (ms_aload_n dX8_cut_134 rfl rfl) ?_
  refine mb_l_cons (ms_getf (ci := 8) (kf := 21) hX (C := RX8) (T := TX8) (N := 26) rfl (by decide) mu_X8 (Or.inl mw_774) dX8_cut_135 rfl) ?_
  refine mb_l_cons (ms_icmp_ge dX8_cut_138 rfl rfl) ?_
  refine mb_l_cons (ms_aload_n dX8_cut_141 rfl rfl) ?_
  refine mb_l_cons (ms_getf (ci := 8) (kf := 22) hX (C := RX8) (T := TX8) (N := 26) rfl (by decide) mu_X8 (Or.inl mw_775) dX8_cut_142 rfl) ?_
  refine mb_l_cons (ms_iload dX8_cut_145 rfl) ?_
  refine mb_l_cons (ms_iald hX dX8_cut_147 rfl) ?_
  refine mb_l_cons (ms_iload_n dX8_cut_148 rfl rfl) ?_
  refine mb_l_cons (ms_icmp_ne dX8_cut_149 rfl rfl) ?_
  refine mb_l_cons (ms_aload_n dX8_cut_152 rfl rfl) ?_
  refine mb_l_cons (ms_iload dX8_cut_153 rfl) ?_
  refine mb_l_cons (ms_iload_n dX8_cut_155 rfl rfl) ?_
  refine mb_l_cons (ms_iload_n dX8_cut_156 rfl rfl) ?_
  refine mb_l_cons (ms_aload_n dX8_cut_157 rfl rfl) ?_
  refine mb_l_cons (ms_getf (ci := 8) (kf := 10) hX (C := RX8) (T := TX8) (N := 26) rfl (by decide) mu_X8 (Or.inl mw_763) dX8_cut_158 rfl) ?_
  refine mb_l_cons (ms_iload_n dX8_cut_161 rfl rfl) ?_
  refine mb_l_cons (ms_iald hX dX8_cut_162 rfl) ?_
  refine mb_l_cons (ms_callv (ci := 8) hX (y := 114) (y0 := yX8_carries) (bytes := cX8_carries) rfl (C := RX8) (T := TX8) (N := 26) rfl mq_X8_150_X8_carries mw_950 mw_952 mw_36 dX8_cut_163 (fun _ _ _ h => nomatch h) rfl) ?_
  refine mb_l_cons (ms_iinc dX8_cut_166 rfl rfl) ?_
  refine mb_l_cons (ms_goto dX8_cut_169 rfl) ?_
  refine mb_l_cons (ms_aload_n dX8_cut_172 rfl rfl) ?_
  refine mb_l_cons (ms_getf (ci := 8) (kf := 10) hX (C := RX8) (T := TX8) (N := 26) rfl (by decide) mu_X8 (Or.inl mw_763) dX8_cut_173 rfl) ?_
  refine mb_l_cons (ms_iload_n dX8_cut_176 rfl rfl) ?_
  refine mb_l_cons (ms_iald hX dX8_cut_177 rfl) ?_
  refine mb_l_cons (ms_iret dX8_cut_178 rfl) ?_
  exact mb_l_nil
theorem mr_X8_note (hX : mb_Fx l D cT s0 args0) : ∀ pc i, mb_look mc_X8_note pc = some i → mb_Snd l D cT s0 mb_mt RX8 "note" cX8_note 3 (some .int) [] pc i := by
  unfold mc_X8_note
  refine mb_l_cons (ms_aload_n dX8_note_0 rfl rfl) ?_
  refine mb_l_cons (ms_aload_n dX8_note_1 rfl rfl) ?_
  refine mb_l_cons (ms_iload_n dX8_note_2 rfl rfl) ?_
  refine mb_l_cons (ms_iload_n dX8_note_3 rfl rfl) ?_
  refine mb_l_cons (ms_callv (ci := 8) hX (y := 90) (y0 := yX8_isFrame) (bytes := cX8_isFrame) rfl (C := RX8) (T := TX8) (N := 26) rfl mq_X8_141_X8_isFrame mw_942 mw_944 mw_34 dX8_note_4 (fun _ _ _ h => nomatch h) rfl) ?_
  refine mb_l_cons (ms_if_ne dX8_note_7 rfl rfl) ?_
  refine mb_l_cons (ms_iconst dX8_note_10 rfl rfl) ?_
  refine mb_l_cons (ms_goto dX8_note_11 rfl) ?_
  refine mb_l_cons (ms_aload_n dX8_note_14 rfl rfl) ?_
  refine mb_l_cons (ms_getf (ci := 8) (kf := 21) hX (C := RX8) (T := TX8) (N := 26) rfl (by decide) mu_X8 (Or.inl mw_774) dX8_note_15 rfl) ?_
  refine mb_l_cons (ms_bipush dX8_note_18 rfl rfl) ?_
  refine mb_l_cons (ms_icmp_ne dX8_note_20 rfl rfl) ?_
  refine mb_l_cons (ms_iconst dX8_note_23 rfl rfl) ?_
  refine mb_l_cons (ms_goto dX8_note_24 rfl) ?_
  refine mb_l_cons (ms_iconst dX8_note_27 rfl rfl) ?_
  refine mb_l_cons (ms_callv (ci := 8) hX (y := 86) (y0 := yX8_holds) (bytes := cX8_holds) rfl (C := RX8) (T := TX8) (N := 26) rfl mq_X8_112_X8_holds mw_841 mw_843 mw_21 dX8_note_28 (fun _ _ _ h => nomatch h) rfl) ?_
  refine mb_l_cons (ms_if_ne dX8_note_31 rfl rfl) ?_
  refine mb_l_cons (ms_iconst dX8_note_34 rfl rfl) ?_
  refine mb_l_cons (ms_iret dX8_note_35 rfl) ?_
  refine mb_l_cons (ms_aload_n dX8_note_36 rfl rfl) ?_
  refine mb_l_cons (ms_getf (ci := 8) (kf := 22) hX (C := RX8) (T := TX8) (N := 26) rfl (by decide) mu_X8 (Or.inl mw_775) dX8_note_37 rfl) ?_
  refine mb_l_cons (ms_aload_n dX8_note_40 rfl rfl) ?_
  refine mb_l_cons (ms_getf (ci := 8) (kf := 21) hX (C := RX8) (T := TX8) (N := 26) rfl (by decide) mu_X8 (Or.inl mw_774) dX8_note_41 rfl) ?_
  refine mb_l_cons (ms_iload_n dX8_note_44 rfl rfl) ?_
  refine mb_l_cons (ms_iast hX dX8_note_45 rfl) ?_
  refine mb_l_cons (ms_aload_n dX8_note_46 rfl rfl) ?_
  refine mb_l_cons (ms_getf (ci := 8) (kf := 23) hX (C := RX8) (T := TX8) (N := 26) rfl (by decide) mu_X8 (Or.inl mw_776) dX8_note_47 rfl) ?_
  refine mb_l_cons (ms_aload_n dX8_note_50 rfl rfl) ?_
  refine mb_l_cons (ms_getf (ci := 8) (kf := 21) hX (C := RX8) (T := TX8) (N := 26) rfl (by decide) mu_X8 (Or.inl mw_774) dX8_note_51 rfl) ?_
  refine mb_l_cons (ms_iload_n dX8_note_54 rfl rfl) ?_
  refine mb_l_cons (ms_iast hX dX8_note_55 rfl) ?_
  refine mb_l_cons (ms_aload_n dX8_note_56 rfl rfl) ?_
  refine mb_l_cons (ms_dup dX8_note_57 rfl) ?_
  refine mb_l_cons (ms_getf (ci := 8) (kf := 21) hX (C := RX8) (T := TX8) (N := 26) rfl (by decide) mu_X8 (Or.inl mw_774) dX8_note_58 rfl) ?_
  refine mb_l_cons (ms_iconst dX8_note_61 rfl rfl) ?_
  refine mb_l_cons (ms_iadd dX8_note_62 rfl) ?_
  refine mb_l_cons (ms_putf (ci := 8) (kf := 21) (z := 0) hX (C := RX8) (T := TX8) (N := 26) rfl (by decide) mu_X8 tyX8 tyX8_ok nmX8 (Or.inl ⟨rfl, rfl⟩) rfl (Or.inl mw_774) dX8_note_63 rfl) ?_
  refine mb_l_cons (ms_aload_n dX8_note_66 rfl rfl) ?_
  refine mb_l_cons (ms_getf (ci := 8) (kf := 21) hX (C := RX8) (T := TX8) (N := 26) rfl (by decide) mu_X8 (Or.inl mw_774) dX8_note_67 rfl) ?_
  refine mb_l_cons (ms_iconst dX8_note_70 rfl rfl) ?_
  refine mb_l_cons (ms_isub dX8_note_71 rfl) ?_
  refine mb_l_cons (ms_iret dX8_note_72 rfl) ?_
  exact mb_l_nil
theorem mr_X8_unsettled (hX : mb_Fx l D cT s0 args0) : ∀ pc i, mb_look mc_X8_unsettled pc = some i → mb_Snd l D cT s0 mb_mt RX8 "unsettled" cX8_unsettled 5 (some .int) [] pc i := by
  unfold mc_X8_unsettled
  refine mb_l_cons (ms_iconst dX8_unsettled_0 rfl rfl) ?_
  refine mb_l_cons (ms_istore_n dX8_unsettled_1 rfl rfl) ?_
  refine mb_l_cons (ms_iconst dX8_unsettled_2 rfl rfl) ?_
  refine mb_l_cons (ms_istore dX8_unsettled_3 rfl) ?_
  refine mb_l_cons (ms_iload dX8_unsettled_5 rfl) ?_
  refine mb_l_cons (ms_aload_n dX8_unsettled_7 rfl rfl) ?_
  refine mb_l_cons (ms_getf (ci := 8) (kf := 21) hX (C := RX8) (T := TX8) (N := 26) rfl (by decide) mu_X8 (Or.inl mw_774) dX8_unsettled_8 rfl) ?_
  refine mb_l_cons (ms_icmp_ge dX8_unsettled_11 rfl rfl) ?_
  refine mb_l_cons (ms_iload_n dX8_unsettled_14 rfl rfl) ?_
  refine mb_l_cons (ms_aload_n dX8_unsettled_15 rfl rfl) ?_
  refine mb_l_cons (ms_getf (ci := 8) (kf := 24) hX (C := RX8) (T := TX8) (N := 26) rfl (by decide) mu_X8 (Or.inl mw_777) dX8_unsettled_16 rfl) ?_
  refine mb_l_cons (ms_iload dX8_unsettled_19 rfl) ?_
  refine mb_l_cons (ms_zald hX dX8_unsettled_21 rfl) ?_
  refine mb_l_cons (ms_if_ne dX8_unsettled_22 rfl rfl) ?_
  refine mb_l_cons (ms_iload_n dX8_unsettled_25 rfl rfl) ?_
  refine mb_l_cons (ms_iconst dX8_unsettled_26 rfl rfl) ?_
  refine mb_l_cons (ms_icmp_eq dX8_unsettled_27 rfl rfl) ?_
  refine mb_l_cons (ms_aload_n dX8_unsettled_30 rfl rfl) ?_
  refine mb_l_cons (ms_getf (ci := 8) (kf := 22) hX (C := RX8) (T := TX8) (N := 26) rfl (by decide) mu_X8 (Or.inl mw_775) dX8_unsettled_31 rfl) ?_
  refine mb_l_cons (ms_iload dX8_unsettled_34 rfl) ?_
  refine mb_l_cons (ms_iald hX dX8_unsettled_36 rfl) ?_
  refine mb_l_cons (ms_iload_n dX8_unsettled_37 rfl rfl) ?_
  refine mb_l_cons (ms_icmp_ne dX8_unsettled_38 rfl rfl) ?_
  refine mb_l_cons (ms_iload_n dX8_unsettled_41 rfl rfl) ?_
  refine mb_l_cons (ms_iconst dX8_unsettled_42 rfl rfl) ?_
  refine mb_l_cons (ms_icmp_eq dX8_unsettled_43 rfl rfl) ?_
  refine mb_l_cons (ms_aload_n dX8_unsettled_46 rfl rfl) ?_
  refine mb_l_cons (ms_getf (ci := 8) (kf := 23) hX (C := RX8) (T := TX8) (N := 26) rfl (by decide) mu_X8 (Or.inl mw_776) dX8_unsettled_47 rfl) ?_
  refine mb_l_cons (ms_iload dX8_unsettled_50 rfl) ?_
  refine mb_l_cons (ms_iald hX dX8_unsettled_52 rfl) ?_
  refine mb_l_cons (ms_iload_n dX8_unsettled_53 rfl rfl) ?_
  refine mb_l_cons (ms_icmp_ne dX8_unsettled_54 rfl rfl) ?_
  refine mb_l_cons (ms_iconst dX8_unsettled_57 rfl rfl) ?_
  refine mb_l_cons (ms_goto dX8_unsettled_58 rfl) ?_
  refine mb_l_cons (ms_iconst dX8_unsettled_61 rfl rfl) ?_
  refine mb_l_cons (ms_iadd dX8_unsettled_62 rfl) ?_
  refine mb_l_cons (ms_istore_n dX8_unsettled_63 rfl rfl) ?_
  refine mb_l_cons (ms_iinc dX8_unsettled_64 rfl rfl) ?_
  refine mb_l_cons (ms_goto dX8_unsettled_67 rfl) ?_
  refine mb_l_cons (ms_iload_n dX8_unsettled_70 rfl rfl) ?_
  refine mb_l_cons (ms_iret dX8_unsettled_71 rfl) ?_
  exact mb_l_nil
theorem mr_X8_settle (hX : mb_Fx l D cT s0 args0) : ∀ pc i, mb_look mc_X8_settle pc = some i → mb_Snd l D cT s0 mb_mt RX8 "settle" cX8_settle 3 (some .int) [] pc i := by
  unfold mc_X8_settle
  refine mb_l_cons (ms_iload_n dX8_settle_0 rfl rfl) ?_
  refine mb_l_cons (ms_iconst dX8_settle_1 rfl rfl) ?_
  refine mb_l_cons (ms_aload_n dX8_settle_2 rfl rfl) ?_
  refine mb_l_cons (ms_getf (ci := 8) (kf := 21) hX (C := RX8) (T := TX8) (N := 26) rfl (by decide) mu_X8 (Or.inl mw_774) dX8_settle_3 rfl) ?_
  refine mb_l_cons (ms_iconst dX8_settle_6 rfl rfl) ?_
  refine mb_l_cons (ms_isub dX8_settle_7 rfl) ?_
  refine mb_l_cons (ms_calls hX (y := 87) (y0 := yX8_isIn) (bytes := cX8_isIn) rfl mq_X8_81_X8_isIn mw_853 mw_854 dX8_settle_8 rfl) ?_
  refine mb_l_cons (ms_istore_n dX8_settle_11 rfl rfl) ?_
  refine mb_l_cons (ms_aload_n dX8_settle_12 rfl rfl) ?_
  refine mb_l_cons (ms_iload_n dX8_settle_13 rfl rfl) ?_
  refine mb_l_cons (ms_if_ne dX8_settle_14 rfl rfl) ?_
  refine mb_l_cons (ms_iconst dX8_settle_17 rfl rfl) ?_
  refine mb_l_cons (ms_goto dX8_settle_18 rfl) ?_
  refine mb_l_cons (ms_aload_n dX8_settle_21 rfl rfl) ?_
  refine mb_l_cons (ms_getf (ci := 8) (kf := 24) hX (C := RX8) (T := TX8) (N := 26) rfl (by decide) mu_X8 (Or.inl mw_777) dX8_settle_22 rfl) ?_
  refine mb_l_cons (ms_iload_n dX8_settle_25 rfl rfl) ?_
  refine mb_l_cons (ms_zald hX dX8_settle_26 rfl) ?_
  refine mb_l_cons (ms_if_eq dX8_settle_27 rfl rfl) ?_
  refine mb_l_cons (ms_iconst dX8_settle_30 rfl rfl) ?_
  refine mb_l_cons (ms_goto dX8_settle_31 rfl) ?_
  refine mb_l_cons (ms_iconst dX8_settle_34 rfl rfl) ?_
  refine mb_l_cons (ms_callv (ci := 8) hX (y := 86) (y0 := yX8_holds) (bytes := cX8_holds) rfl (C := RX8) (T := TX8) (N := 26) rfl mq_X8_112_X8_holds mw_841 mw_843 mw_21 dX8_settle_35 (fun _ _ _ h => nomatch h) rfl) ?_
  refine mb_l_cons (ms_if_ne dX8_settle_38 rfl rfl) ?_
  refine mb_l_cons (ms_iconst dX8_settle_41 rfl rfl) ?_
  refine mb_l_cons (ms_iret dX8_settle_42 rfl) ?_
  refine mb_l_cons (ms_aload_n dX8_settle_43 rfl rfl) ?_
  refine mb_l_cons (ms_getf (ci := 8) (kf := 24) hX (C := RX8) (T := TX8) (N := 26) rfl (by decide) mu_X8 (Or.inl mw_777) dX8_settle_44 rfl) ?_
  refine mb_l_cons (ms_iload_n dX8_settle_47 rfl rfl) ?_
  refine mb_l_cons (ms_iconst dX8_settle_48 rfl rfl) ?_
  refine mb_l_cons (ms_zast hX dX8_settle_49 rfl) ?_
  refine mb_l_cons (ms_aload_n dX8_settle_50 rfl rfl) ?_
  refine mb_l_cons (ms_aload_n dX8_settle_51 rfl rfl) ?_
  refine mb_l_cons (ms_getf (ci := 8) (kf := 22) hX (C := RX8) (T := TX8) (N := 26) rfl (by decide) mu_X8 (Or.inl mw_775) dX8_settle_52 rfl) ?_
  refine mb_l_cons (ms_iload_n dX8_settle_55 rfl rfl) ?_
  refine mb_l_cons (ms_iald hX dX8_settle_56 rfl) ?_
  refine mb_l_cons (ms_iconst dX8_settle_57 rfl rfl) ?_
  refine mb_l_cons (ms_callv (ci := 8) hX (y := 117) (y0 := yX8_unsettled) (bytes := cX8_unsettled) rfl (C := RX8) (T := TX8) (N := 26) rfl mq_X8_153_X8_unsettled mw_962 mw_964 mw_37 dX8_settle_58 (fun _ _ _ h => nomatch h) rfl) ?_
  refine mb_l_cons (ms_iret dX8_settle_61 rfl) ?_
  exact mb_l_nil
theorem mr_X8_ofNote (hX : mb_Fx l D cT s0 args0) : ∀ pc i, mb_look mc_X8_ofNote pc = some i → mb_Snd l D cT s0 mb_mt RX8 "ofNote" cX8_ofNote 3 (some .int) [] pc i := by
  unfold mc_X8_ofNote
  refine mb_l_cons (ms_aload_n dX8_ofNote_0 rfl rfl) ?_
  refine mb_l_cons (ms_iload_n dX8_ofNote_1 rfl rfl) ?_
  refine mb_l_cons (ms_iconst dX8_ofNote_2 rfl rfl) ?_
  refine mb_l_cons (ms_aload_n dX8_ofNote_3 rfl rfl) ?_
  refine mb_l_cons (ms_getf (ci := 8) (kf := 21) hX (C := RX8) (T := TX8) (N := 26) rfl (by decide) mu_X8 (Or.inl mw_774) dX8_ofNote_4 rfl) ?_
  refine mb_l_cons (ms_iconst dX8_ofNote_7 rfl rfl) ?_
  refine mb_l_cons (ms_isub dX8_ofNote_8 rfl) ?_
  refine mb_l_cons (ms_calls hX (y := 87) (y0 := yX8_isIn) (bytes := cX8_isIn) rfl mq_X8_81_X8_isIn mw_853 mw_854 dX8_ofNote_9 rfl) ?_
  refine mb_l_cons (ms_if_eq dX8_ofNote_12 rfl rfl) ?_
  refine mb_l_cons (ms_iload_n dX8_ofNote_15 rfl rfl) ?_
  refine mb_l_cons (ms_iconst dX8_ofNote_16 rfl rfl) ?_
  refine mb_l_cons (ms_iconst dX8_ofNote_17 rfl rfl) ?_
  refine mb_l_cons (ms_calls hX (y := 87) (y0 := yX8_isIn) (bytes := cX8_isIn) rfl mq_X8_81_X8_isIn mw_853 mw_854 dX8_ofNote_18 rfl) ?_
  refine mb_l_cons (ms_if_eq dX8_ofNote_21 rfl rfl) ?_
  refine mb_l_cons (ms_iconst dX8_ofNote_24 rfl rfl) ?_
  refine mb_l_cons (ms_goto dX8_ofNote_25 rfl) ?_
  refine mb_l_cons (ms_iconst dX8_ofNote_28 rfl rfl) ?_
  refine mb_l_cons (ms_callv (ci := 8) hX (y := 86) (y0 := yX8_holds) (bytes := cX8_holds) rfl (C := RX8) (T := TX8) (N := 26) rfl mq_X8_112_X8_holds mw_841 mw_843 mw_21 dX8_ofNote_29 (fun _ _ _ h => nomatch h) rfl) ?_
  refine mb_l_cons (ms_if_ne dX8_ofNote_32 rfl rfl) ?_
  refine mb_l_cons (ms_iconst dX8_ofNote_35 rfl rfl) ?_
  refine mb_l_cons (ms_iret dX8_ofNote_36 rfl) ?_
  refine mb_l_cons (ms_iload_n dX8_ofNote_37 rfl rfl) ?_
  refine mb_l_cons (ms_if_ne dX8_ofNote_38 rfl rfl) ?_
  refine mb_l_cons (ms_aload_n dX8_ofNote_41 rfl rfl) ?_
  refine mb_l_cons (ms_getf (ci := 8) (kf := 22) hX (C := RX8) (T := TX8) (N := 26) rfl (by decide) mu_X8 (Or.inl mw_775) dX8_ofNote_42 rfl) ?_
  refine mb_l_cons (ms_iload_n dX8_ofNote_45 rfl rfl) ?_
  refine mb_l_cons (ms_iald hX dX8_ofNote_46 rfl) ?_
  refine mb_l_cons (ms_goto dX8_ofNote_47 rfl) ?_
  refine mb_l_cons (ms_iload_n dX8_ofNote_50 rfl rfl) ?_
  refine mb_l_cons (ms_iconst dX8_ofNote_51 rfl rfl) ?_
  refine mb_l_cons (ms_icmp_ne dX8_ofNote_52 rfl rfl) ?_
  refine mb_l_cons (ms_aload_n dX8_ofNote_55 rfl rfl) ?_
  refine mb_l_cons (ms_getf (ci := 8) (kf := 23) hX (C := RX8) (T := TX8) (N := 26) rfl (by decide) mu_X8 (Or.inl mw_776) dX8_ofNote_56 rfl) ?_
  refine mb_l_cons (ms_iload_n dX8_ofNote_59 rfl rfl) ?_
  refine mb_l_cons (ms_iald hX dX8_ofNote_60 rfl) ?_
  refine mb_l_cons (ms_goto dX8_ofNote_61 rfl) ?_
  refine mb_l_cons (ms_iload_n dX8_ofNote_64 rfl rfl) ?_
  refine mb_l_cons (ms_iconst dX8_ofNote_65 rfl rfl) ?_
  refine mb_l_cons (ms_icmp_ne dX8_ofNote_66 rfl rfl) ?_
  refine mb_l_cons (ms_aload_n dX8_ofNote_69 rfl rfl) ?_
  refine mb_l_cons (ms_getf (ci := 8) (kf := 24) hX (C := RX8) (T := TX8) (N := 26) rfl (by decide) mu_X8 (Or.inl mw_777) dX8_ofNote_70 rfl) ?_
  refine mb_l_cons (ms_iload_n dX8_ofNote_73 rfl rfl) ?_
  refine mb_l_cons (ms_zald hX dX8_ofNote_74 rfl) ?_
  refine mb_l_cons (ms_if_eq dX8_ofNote_75 rfl rfl) ?_
  refine mb_l_cons (ms_iconst dX8_ofNote_78 rfl rfl) ?_
  refine mb_l_cons (ms_goto dX8_ofNote_79 rfl) ?_
  refine mb_l_cons (ms_iconst dX8_ofNote_82 rfl rfl) ?_
  refine mb_l_cons (ms_goto dX8_ofNote_83 rfl) ?_
  refine mb_l_cons (ms_aload_n dX8_ofNote_86 rfl rfl) ?_
  refine mb_l_cons (ms_getf (ci := 8) (kf := 25) hX (C := RX8) (T := TX8) (N := 26) rfl (by decide) mu_X8 (Or.inl mw_778) dX8_ofNote_87 rfl) ?_
  refine mb_l_cons (ms_iload_n dX8_ofNote_90 rfl rfl) ?_
  refine mb_l_cons (ms_iald hX dX8_ofNote_91 rfl) ?_
  refine mb_l_cons (ms_iret dX8_ofNote_92 rfl) ?_
  exact mb_l_nil
theorem mr_X8_seenVersion (hX : mb_Fx l D cT s0 args0) : ∀ pc i, mb_look mc_X8_seenVersion pc = some i → mb_Snd l D cT s0 mb_mt RX8 "seenVersion" cX8_seenVersion 6 (some .int) [] pc i := by
  unfold mc_X8_seenVersion
  refine mb_l_cons (ms_bipush dX8_seenVersion_0 rfl rfl) ?_
  refine mb_l_cons (ms_iload_n dX8_seenVersion_2 rfl rfl) ?_
  refine mb_l_cons (ms_imul dX8_seenVersion_3 rfl) ?_
  refine mb_l_cons (ms_iload_n dX8_seenVersion_4 rfl rfl) ?_
  refine mb_l_cons (ms_iadd dX8_seenVersion_5 rfl) ?_
  refine mb_l_cons (ms_istore dX8_seenVersion_6 rfl) ?_
  refine mb_l_cons (ms_aload_n dX8_seenVersion_8 rfl rfl) ?_
  refine mb_l_cons (ms_getf (ci := 8) (kf := 15) hX (C := RX8) (T := TX8) (N := 26) rfl (by decide) mu_X8 (Or.inl mw_768) dX8_seenVersion_9 rfl) ?_
  refine mb_l_cons (ms_bipush dX8_seenVersion_12 rfl rfl) ?_
  refine mb_l_cons (ms_iload_n dX8_seenVersion_14 rfl rfl) ?_
  refine mb_l_cons (ms_imul dX8_seenVersion_15 rfl) ?_
  refine mb_l_cons (ms_iload_n dX8_seenVersion_16 rfl rfl) ?_
  refine mb_l_cons (ms_iadd dX8_seenVersion_17 rfl) ?_
  refine mb_l_cons (ms_iald hX dX8_seenVersion_18 rfl) ?_
  refine mb_l_cons (ms_istore dX8_seenVersion_19 rfl) ?_
  refine mb_l_cons (ms_aload_n dX8_seenVersion_21 rfl rfl) ?_
  refine mb_l_cons (ms_getf (ci := 8) (kf := 11) hX (C := RX8) (T := TX8) (N := 26) rfl (by decide) mu_X8 (Or.inl mw_764) dX8_seenVersion_22 rfl) ?_
  refine mb_l_cons (ms_iload dX8_seenVersion_25 rfl) ?_
  refine mb_l_cons (ms_zald hX dX8_seenVersion_27 rfl) ?_
  refine mb_l_cons (ms_if_eq dX8_seenVersion_28 rfl rfl) ?_
  refine mb_l_cons (ms_iload dX8_seenVersion_31 rfl) ?_
  refine mb_l_cons (ms_aload_n dX8_seenVersion_33 rfl rfl) ?_
  refine mb_l_cons (ms_getf (ci := 8) (kf := 13) hX (C := RX8) (T := TX8) (N := 26) rfl (by decide) mu_X8 (Or.inl mw_766) dX8_seenVersion_34 rfl) ?_
  refine mb_l_cons (ms_iload dX8_seenVersion_37 rfl) ?_
  refine mb_l_cons (ms_iald hX dX8_seenVersion_39 rfl) ?_
  refine mb_l_cons (ms_aload_n dX8_seenVersion_40 rfl rfl) ?_
  refine mb_l_cons (ms_getf (ci := 8) (kf := 14) hX (C := RX8) (T := TX8) (N := 26) rfl (by decide) mu_X8 (Or.inl mw_767) dX8_seenVersion_41 rfl) ?_
  refine mb_l_cons (ms_iload dX8_seenVersion_44 rfl) ?_
  refine mb_l_cons (ms_iald hX dX8_seenVersion_46 rfl) ?_
  refine mb_l_cons (ms_calls hX (y := 87) (y0 := yX8_isIn) (bytes := cX8_isIn) rfl mq_X8_81_X8_isIn mw_853 mw_854 dX8_seenVersion_47 rfl) ?_
  refine mb_l_cons (ms_if_ne dX8_seenVersion_50 rfl rfl) ?_
  refine mb_l_cons (ms_iconst dX8_seenVersion_53 rfl rfl) ?_
  refine mb_l_cons (ms_iret dX8_seenVersion_54 rfl) ?_
  refine mb_l_cons (ms_aload_n dX8_seenVersion_55 rfl rfl) ?_
  refine mb_l_cons (ms_getf (ci := 8) (kf := 12) hX (C := RX8) (T := TX8) (N := 26) rfl (by decide) mu_X8 (Or.inl mw_765) dX8_seenVersion_56 rfl) ?_
  refine mb_l_cons (ms_iload dX8_seenVersion_59 rfl) ?_
  refine mb_l_cons (ms_iald hX dX8_seenVersion_61 rfl) ?_
  refine mb_l_cons (ms_iconst dX8_seenVersion_62 rfl rfl) ?_
  refine mb_l_cons (ms_icmp_eq dX8_seenVersion_63 rfl rfl) ?_
  refine mb_l_cons (ms_aload_n dX8_seenVersion_66 rfl rfl) ?_
  refine mb_l_cons (ms_getf (ci := 8) (kf := 12) hX (C := RX8) (T := TX8) (N := 26) rfl (by decide) mu_X8 (Or.inl mw_765) dX8_seenVersion_67 rfl) ?_
  refine mb_l_cons (ms_iload dX8_seenVersion_70 rfl) ?_
  refine mb_l_cons (ms_iald hX dX8_seenVersion_72 rfl) ?_
  refine mb_l_cons (ms_goto dX8_seenVersion_73 rfl) ?_
  refine mb_l_cons (ms_aload_n dX8_seenVersion_76 rfl rfl) ?_
  refine mb_l_cons (ms_getf (ci := 8) (kf := 2) hX (C := RX8) (T := TX8) (N := 26) rfl (by decide) mu_X8 (Or.inl mw_755) dX8_seenVersion_77 rfl) ?_
  refine mb_l_cons (ms_iload_n dX8_seenVersion_80 rfl rfl) ?_
  refine mb_l_cons (ms_iald hX dX8_seenVersion_81 rfl) ?_
  refine mb_l_cons (ms_iconst dX8_seenVersion_82 rfl rfl) ?_
  refine mb_l_cons (ms_isub dX8_seenVersion_83 rfl) ?_
  refine mb_l_cons (ms_iret dX8_seenVersion_84 rfl) ?_
  exact mb_l_nil
theorem mr_X8_seenBones (hX : mb_Fx l D cT s0 args0) : ∀ pc i, mb_look mc_X8_seenBones pc = some i → mb_Snd l D cT s0 mb_mt RX8 "seenBones" cX8_seenBones 5 (some .int) [] pc i := by
  unfold mc_X8_seenBones
  refine mb_l_cons (ms_aload_n dX8_seenBones_0 rfl rfl) ?_
  refine mb_l_cons (ms_iload_n dX8_seenBones_1 rfl rfl) ?_
  refine mb_l_cons (ms_iload_n dX8_seenBones_2 rfl rfl) ?_
  refine mb_l_cons (ms_iload_n dX8_seenBones_3 rfl rfl) ?_
  refine mb_l_cons (ms_callv (ci := 8) hX (y := 120) (y0 := yX8_seenVersion) (bytes := cX8_seenVersion) rfl (C := RX8) (T := TX8) (N := 26) rfl mq_X8_156_X8_seenVersion mw_986 mw_988 mw_41 dX8_seenBones_4 (fun _ _ _ h => nomatch h) rfl) ?_
  refine mb_l_cons (ms_istore dX8_seenBones_7 rfl) ?_
  refine mb_l_cons (ms_iload dX8_seenBones_9 rfl) ?_
  refine mb_l_cons (ms_iconst dX8_seenBones_11 rfl rfl) ?_
  refine mb_l_cons (ms_icmp_ne dX8_seenBones_12 rfl rfl) ?_
  refine mb_l_cons (ms_iconst dX8_seenBones_15 rfl rfl) ?_
  refine mb_l_cons (ms_goto dX8_seenBones_16 rfl) ?_
  refine mb_l_cons (ms_aload_n dX8_seenBones_19 rfl rfl) ?_
  refine mb_l_cons (ms_getf (ci := 8) (kf := 3) hX (C := RX8) (T := TX8) (N := 26) rfl (by decide) mu_X8 (Or.inl mw_756) dX8_seenBones_20 rfl) ?_
  refine mb_l_cons (ms_iload_n dX8_seenBones_23 rfl rfl) ?_
  refine mb_l_cons (ms_iload dX8_seenBones_24 rfl) ?_
  refine mb_l_cons (ms_calls hX (y := 91) (y0 := yX8_rigOf) (bytes := cX8_rigOf) rfl mq_X8_99_X8_rigOf mw_864 mw_865 dX8_seenBones_26 rfl) ?_
  refine mb_l_cons (ms_iald hX dX8_seenBones_29 rfl) ?_
  refine mb_l_cons (ms_iret dX8_seenBones_30 rfl) ?_
  exact mb_l_nil
theorem mr_X8_isAsKept (hX : mb_Fx l D cT s0 args0) : ∀ pc i, mb_look mc_X8_isAsKept pc = some i → mb_Snd l D cT s0 mb_mt RX8 "isAsKept" cX8_isAsKept 9 (some .boolean) [] pc i := by
  unfold mc_X8_isAsKept
  refine mb_l_cons (ms_bipush dX8_isAsKept_0 rfl rfl) ?_
  refine mb_l_cons (ms_bipush dX8_isAsKept_2 rfl rfl) ?_
  refine mb_l_cons (ms_iload_n dX8_isAsKept_4 rfl rfl) ?_
  refine mb_l_cons (ms_imul dX8_isAsKept_5 rfl) ?_
  refine mb_l_cons (ms_iload_n dX8_isAsKept_6 rfl rfl) ?_
  refine mb_l_cons (ms_iadd dX8_isAsKept_7 rfl) ?_
  refine mb_l_cons (ms_imul dX8_isAsKept_8 rfl) ?_
  refine mb_l_cons (ms_iload_n dX8_isAsKept_9 rfl rfl) ?_
  refine mb_l_cons (ms_iadd dX8_isAsKept_10 rfl) ?_
  refine mb_l_cons (ms_istore dX8_isAsKept_11 rfl) ?_
  refine mb_l_cons (ms_aload_n dX8_isAsKept_13 rfl rfl) ?_
  refine mb_l_cons (ms_iload_n dX8_isAsKept_14 rfl rfl) ?_
  refine mb_l_cons (ms_iload_n dX8_isAsKept_15 rfl rfl) ?_
  refine mb_l_cons (ms_iload_n dX8_isAsKept_16 rfl rfl) ?_
  refine mb_l_cons (ms_callv (ci := 8) hX (y := 121) (y0 := yX8_seenBones) (bytes := cX8_seenBones) rfl (C := RX8) (T := TX8) (N := 26) rfl mq_X8_159_X8_seenBones mw_982 mw_984 mw_40 dX8_isAsKept_17 (fun _ _ _ h => nomatch h) rfl) ?_
  refine mb_l_cons (ms_istore dX8_isAsKept_20 rfl) ?_
  refine mb_l_cons (ms_iload_n dX8_isAsKept_22 rfl rfl) ?_
  refine mb_l_cons (ms_aload_n dX8_isAsKept_23 rfl rfl) ?_
  refine mb_l_cons (ms_iload_n dX8_isAsKept_24 rfl rfl) ?_
  refine mb_l_cons (ms_iload_n dX8_isAsKept_25 rfl rfl) ?_
  refine mb_l_cons (ms_iload_n dX8_isAsKept_26 rfl rfl) ?_
  refine mb_l_cons (ms_callv (ci := 8) hX (y := 120) (y0 := yX8_seenVersion) (bytes := cX8_seenVersion) rfl (C := RX8) (T := TX8) (N := 26) rfl mq_X8_156_X8_seenVersion mw_986 mw_988 mw_41 dX8_isAsKept_27 (fun _ _ _ h => nomatch h) rfl) ?_
  refine mb_l_cons (ms_calls hX (y := 91) (y0 := yX8_rigOf) (bytes := cX8_rigOf) rfl mq_X8_99_X8_rigOf mw_864 mw_865 dX8_isAsKept_30 rfl) ?_
  refine mb_l_cons (ms_istore dX8_isAsKept_33 rfl) ?_
  refine mb_l_cons (ms_iload dX8_isAsKept_35 rfl) ?_
  refine mb_l_cons (ms_aload_n dX8_isAsKept_37 rfl rfl) ?_
  refine mb_l_cons (ms_getf (ci := 8) (kf := 18) hX (C := RX8) (T := TX8) (N := 26) rfl (by decide) mu_X8 (Or.inl mw_771) dX8_isAsKept_38 rfl) ?_
  refine mb_l_cons (ms_iload dX8_isAsKept_41 rfl) ?_
  refine mb_l_cons (ms_iald hX dX8_isAsKept_43 rfl) ?_
  refine mb_l_cons (ms_icmp_ne dX8_isAsKept_44 rfl rfl) ?_
  refine mb_l_cons (ms_iconst dX8_isAsKept_47 rfl rfl) ?_
  refine mb_l_cons (ms_goto dX8_isAsKept_48 rfl) ?_
  refine mb_l_cons (ms_iconst dX8_isAsKept_51 rfl rfl) ?_
  refine mb_l_cons (ms_istore dX8_isAsKept_52 rfl) ?_
  refine mb_l_cons (ms_iconst dX8_isAsKept_54 rfl rfl) ?_
  refine mb_l_cons (ms_istore dX8_isAsKept_55 rfl) ?_
  refine mb_l_cons (ms_iload dX8_isAsKept_57 rfl) ?_
  refine mb_l_cons (ms_iload dX8_isAsKept_59 rfl) ?_
  refine mb_l_cons (ms_icmp_ge dX8_isAsKept_61 rfl rfl) ?_
  refine mb_l_cons (ms_iload dX8_isAsKept_64 rfl) ?_
  refine mb_l_cons (ms_if_eq dX8_isAsKept_66 rfl rfl) ?_
  refine mb_l_cons (ms_aload_n dX8_isAsKept_69 rfl rfl) ?_
  refine mb_l_cons (ms_getf (ci := 8) (kf := 19) hX (C := RX8) (T := TX8) (N := 26) rfl (by decide) mu_X8 (Or.inl mw_772) dX8_isAsKept_70 rfl) ?_
  refine mb_l_cons (ms_bipush dX8_isAsKept_73 rfl rfl) ?_
  refine mb_l_cons (ms_iload dX8_isAsKept_75 rfl) ?_
  refine mb_l_cons (ms_imul dX8_isAsKept_77 rfl) ?_
  refine mb_l_cons (ms_iload dX8_isAsKept_78 rfl) ?_
  refine mb_l_cons (ms_iadd dX8_isAsKept_80 rfl) ?_
  refine mb_l_cons (ms_iald hX dX8_isAsKept_81 rfl) ?_
  refine mb_l_cons (ms_aload_n dX8_isAsKept_82 rfl rfl) ?_
  refine mb_l_cons (ms_iload dX8_isAsKept_83 rfl) ?_
  refine mb_l_cons (ms_iload dX8_isAsKept_85 rfl) ?_
  refine mb_l_cons (ms_aload_n dX8_isAsKept_87 rfl rfl) ?_
  refine mb_l_cons (ms_getf (ci := 8) (kf := 15) hX (C := RX8) (T := TX8) (N := 26) rfl (by decide) mu_X8 (Or.inl mw_768) dX8_isAsKept_88 rfl) ?_
  refine mb_l_cons (ms_bipush dX8_isAsKept_91 rfl rfl) ?_
  refine mb_l_cons (ms_iload_n dX8_isAsKept_93 rfl rfl) ?_
  refine mb_l_cons (ms_imul dX8_isAsKept_94 rfl) ?_
  refine mb_l_cons (ms_iload_n dX8_isAsKept_95 rfl rfl) ?_
  refine mb_l_cons (ms_iadd dX8_isAsKept_96 rfl) ?_
  refine mb_l_cons (ms_iald hX dX8_isAsKept_97 rfl) ?_
  refine mb_l_cons (ms_callv (ci := 8) hX (y := 98) (y0 := yX8_poseOf) (bytes := cX8_poseOf) rfl (C := RX8) (T := TX8) (N := 26) rfl mq_X8_129_X8_poseOf mw_903 mw_905 mw_30 dX8_isAsKept_98 (fun _ _ _ h => nomatch h) rfl) ?_
  refine mb_l_cons (ms_icmp_ne dX8_isAsKept_101 rfl rfl) ?_
  refine mb_l_cons (ms_iconst dX8_isAsKept_104 rfl rfl) ?_
  refine mb_l_cons (ms_goto dX8_isAsKept_105 rfl) ?_
  refine mb_l_cons (ms_iconst dX8_isAsKept_108 rfl rfl) ?_
  refine mb_l_cons (ms_istore dX8_isAsKept_109 rfl) ?_
  refine mb_l_cons (ms_iinc dX8_isAsKept_111 rfl rfl) ?_
  refine mb_l_cons (ms_goto dX8_isAsKept_114 rfl) ?_
  refine mb_l_cons (ms_iload dX8_isAsKept_117 rfl) ?_
  refine mb_l_cons (ms_zret dX8_isAsKept_119 rfl) ?_
  exact mb_l_nil
theorem mr_X8_isNeeded (hX : mb_Fx l D cT s0 args0) : ∀ pc i, mb_look mc_X8_isNeeded pc = some i → mb_Snd l D cT s0 mb_mt RX8 "isNeeded" cX8_isNeeded 5 (some .boolean) [] pc i := by
  unfold mc_X8_isNeeded
  refine mb_l_cons (ms_aload_n dX8_isNeeded_0 rfl rfl) ?_
  refine mb_l_cons (ms_getf (ci := 8) (kf := 16) hX (C := RX8) (T := TX8) (N := 26) rfl (by decide) mu_X8 (Or.inl mw_769) dX8_isNeeded_1 rfl) ?_
  refine mb_l_cons (ms_bipush dX8_isNeeded_4 rfl rfl) ?_
  refine mb_l_cons (ms_iload_n dX8_isNeeded_6 rfl rfl) ?_
  refine mb_l_cons (ms_imul dX8_isNeeded_7 rfl) ?_
  refine mb_l_cons (ms_iload_n dX8_isNeeded_8 rfl rfl) ?_
  refine mb_l_cons (ms_iadd dX8_isNeeded_9 rfl) ?_
  refine mb_l_cons (ms_iald hX dX8_isNeeded_10 rfl) ?_
  refine mb_l_cons (ms_if_ne dX8_isNeeded_11 rfl rfl) ?_
  refine mb_l_cons (ms_iconst dX8_isNeeded_14 rfl rfl) ?_
  refine mb_l_cons (ms_goto dX8_isNeeded_15 rfl) ?_
  refine mb_l_cons (ms_iconst dX8_isNeeded_18 rfl rfl) ?_
  refine mb_l_cons (ms_istore_n dX8_isNeeded_19 rfl rfl) ?_
  refine mb_l_cons (ms_iconst dX8_isNeeded_20 rfl rfl) ?_
  refine mb_l_cons (ms_istore dX8_isNeeded_21 rfl) ?_
  refine mb_l_cons (ms_iload dX8_isNeeded_23 rfl) ?_
  refine mb_l_cons (ms_aload_n dX8_isNeeded_25 rfl rfl) ?_
  refine mb_l_cons (ms_getf (ci := 8) (kf := 1) hX (C := RX8) (T := TX8) (N := 26) rfl (by decide) mu_X8 (Or.inl mw_754) dX8_isNeeded_26 rfl) ?_
  refine mb_l_cons (ms_icmp_ge dX8_isNeeded_29 rfl rfl) ?_
  refine mb_l_cons (ms_iload_n dX8_isNeeded_32 rfl rfl) ?_
  refine mb_l_cons (ms_if_ne dX8_isNeeded_33 rfl rfl) ?_
  refine mb_l_cons (ms_aload_n dX8_isNeeded_36 rfl rfl) ?_
  refine mb_l_cons (ms_iload_n dX8_isNeeded_37 rfl rfl) ?_
  refine mb_l_cons (ms_iload_n dX8_isNeeded_38 rfl rfl) ?_
  refine mb_l_cons (ms_iload dX8_isNeeded_39 rfl) ?_
  refine mb_l_cons (ms_callv (ci := 8) hX (y := 122) (y0 := yX8_isAsKept) (bytes := cX8_isAsKept) rfl (C := RX8) (T := TX8) (N := 26) rfl mq_X8_162_X8_isAsKept mw_978 mw_980 mw_39 dX8_isNeeded_41 (fun _ _ _ h => nomatch h) rfl) ?_
  refine mb_l_cons (ms_if_ne dX8_isNeeded_44 rfl rfl) ?_
  refine mb_l_cons (ms_iconst dX8_isNeeded_47 rfl rfl) ?_
  refine mb_l_cons (ms_goto dX8_isNeeded_48 rfl) ?_
  refine mb_l_cons (ms_iconst dX8_isNeeded_51 rfl rfl) ?_
  refine mb_l_cons (ms_istore_n dX8_isNeeded_52 rfl rfl) ?_
  refine mb_l_cons (ms_iinc dX8_isNeeded_53 rfl rfl) ?_
  refine mb_l_cons (ms_goto dX8_isNeeded_56 rfl) ?_
  refine mb_l_cons (ms_iload_n dX8_isNeeded_59 rfl rfl) ?_
  refine mb_l_cons (ms_zret dX8_isNeeded_60 rfl) ?_
  exact mb_l_nil
theorem mr_X8_keeps (hX : mb_Fx l D cT s0 args0) : ∀ pc i, mb_look mc_X8_keeps pc = some i → mb_Snd l D cT s0 mb_mt RX8 "keeps" cX8_keeps 7 none [] pc i := by
  unfold mc_X8_keeps
  refine mb_l_cons (ms_iconst dX8_keeps_0 rfl rfl) ?_
  refine mb_l_cons (ms_istore_n dX8_keeps_1 rfl rfl) ?_
  refine mb_l_cons (ms_iload_n dX8_keeps_2 rfl rfl) ?_
  refine mb_l_cons (ms_bipush dX8_keeps_3 rfl rfl) ?_
  refine mb_l_cons (ms_icmp_ge dX8_keeps_5 rfl rfl) ?_
  refine mb_l_cons (ms_bipush dX8_keeps_8 rfl rfl) ?_
  refine mb_l_cons (ms_bipush dX8_keeps_10 rfl rfl) ?_
  refine mb_l_cons (ms_iload_n dX8_keeps_12 rfl rfl) ?_
  refine mb_l_cons (ms_imul dX8_keeps_13 rfl) ?_
  refine mb_l_cons (ms_iload_n dX8_keeps_14 rfl rfl) ?_
  refine mb_l_cons (ms_iadd dX8_keeps_15 rfl) ?_
  refine mb_l_cons (ms_imul dX8_keeps_16 rfl) ?_
  refine mb_l_cons (ms_iload_n dX8_keeps_17 rfl rfl) ?_
  refine mb_l_cons (ms_iadd dX8_keeps_18 rfl) ?_
  refine mb_l_cons (ms_istore dX8_keeps_19 rfl) ?_
  refine mb_l_cons (ms_iload_n dX8_keeps_21 rfl rfl) ?_
  refine mb_l_cons (ms_aload_n dX8_keeps_22 rfl rfl) ?_
  refine mb_l_cons (ms_getf (ci := 8) (kf := 1) hX (C := RX8) (T := TX8) (N := 26) rfl (by decide) mu_X8 (Or.inl mw_754) dX8_keeps_23 rfl) ?_
  refine mb_l_cons (ms_icmp_ge dX8_keeps_26 rfl rfl) ?_
  refine mb_l_cons (ms_aload_n dX8_keeps_29 rfl rfl) ?_
  refine mb_l_cons (ms_iload_n dX8_keeps_30 rfl rfl) ?_
  refine mb_l_cons (ms_iload_n dX8_keeps_31 rfl rfl) ?_
  refine mb_l_cons (ms_iload_n dX8_keeps_32 rfl rfl) ?_
  refine mb_l_cons (ms_callv (ci := 8) hX (y := 120) (y0 := yX8_seenVersion) (bytes := cX8_seenVersion) rfl (C := RX8) (T := TX8) (N := 26) rfl mq_X8_156_X8_seenVersion mw_986 mw_988 mw_41 dX8_keeps_33 (fun _ _ _ h => nomatch h) rfl) ?_
  refine mb_l_cons (ms_goto dX8_keeps_36 rfl) ?_
  refine mb_l_cons (ms_iconst dX8_keeps_39 rfl rfl) ?_
  refine mb_l_cons (ms_istore dX8_keeps_40 rfl) ?_
  refine mb_l_cons (ms_aload_n dX8_keeps_42 rfl rfl) ?_
  refine mb_l_cons (ms_getf (ci := 8) (kf := 17) hX (C := RX8) (T := TX8) (N := 26) rfl (by decide) mu_X8 (Or.inl mw_770) dX8_keeps_43 rfl) ?_
  refine mb_l_cons (ms_iload dX8_keeps_46 rfl) ?_
  refine mb_l_cons (ms_iload dX8_keeps_48 rfl) ?_
  refine mb_l_cons (ms_iast hX dX8_keeps_50 rfl) ?_
  refine mb_l_cons (ms_aload_n dX8_keeps_51 rfl rfl) ?_
  refine mb_l_cons (ms_getf (ci := 8) (kf := 18) hX (C := RX8) (T := TX8) (N := 26) rfl (by decide) mu_X8 (Or.inl mw_771) dX8_keeps_52 rfl) ?_
  refine mb_l_cons (ms_iload dX8_keeps_55 rfl) ?_
  refine mb_l_cons (ms_iload dX8_keeps_57 rfl) ?_
  refine mb_l_cons (ms_iconst dX8_keeps_59 rfl rfl) ?_
  refine mb_l_cons (ms_icmp_ne dX8_keeps_60 rfl rfl) ?_
  refine mb_l_cons (ms_iconst dX8_keeps_63 rfl rfl) ?_
  refine mb_l_cons (ms_goto dX8_keeps_64 rfl) ?_
  refine mb_l_cons (ms_aload_n dX8_keeps_67 rfl rfl) ?_
  refine mb_l_cons (ms_getf (ci := 8) (kf := 3) hX (C := RX8) (T := TX8) (N := 26) rfl (by decide) mu_X8 (Or.inl mw_756) dX8_keeps_68 rfl) ?_
  refine mb_l_cons (ms_iload_n dX8_keeps_71 rfl rfl) ?_
  refine mb_l_cons (ms_iload dX8_keeps_72 rfl) ?_
  refine mb_l_cons (ms_calls hX (y := 91) (y0 := yX8_rigOf) (bytes := cX8_rigOf) rfl mq_X8_99_X8_rigOf mw_864 mw_865 dX8_keeps_74 rfl) ?_
  refine mb_l_cons (ms_iald hX dX8_keeps_77 rfl) ?_
  refine mb_l_cons (ms_iast hX dX8_keeps_78 rfl) ?_
  refine mb_l_cons (ms_iconst dX8_keeps_79 rfl rfl) ?_
  refine mb_l_cons (ms_istore dX8_keeps_80 rfl) ?_
  refine mb_l_cons (ms_iload dX8_keeps_82 rfl) ?_
  refine mb_l_cons (ms_aload_n dX8_keeps_84 rfl rfl) ?_
  refine mb_l_cons (ms_getf (ci := 8) (kf := 18) hX (C := RX8) (T := TX8) (N := 26) rfl (by decide) mu_X8 (Or.inl mw_771) dX8_keeps_85 rfl) ?_
  refine mb_l_cons (ms_iload dX8_keeps_88 rfl) ?_
  refine mb_l_cons (ms_iald hX dX8_keeps_90 rfl) ?_
  refine mb_l_cons (ms_icmp_ge dX8_keeps_91 rfl rfl) ?_
  refine mb_l_cons (ms_aload_n dX8_keeps_94 rfl rfl) ?_
  refine mb_l_cons (ms_getf (ci := 8) (kf := 19) hX (C := RX8) (T := TX8) (N := 26) rfl (by decide) mu_X8 (Or.inl mw_772) dX8_keeps_95 rfl) ?_
  refine mb_l_cons (ms_bipush dX8_keeps_98 rfl rfl) ?_
  refine mb_l_cons (ms_iload dX8_keeps_100 rfl) ?_
  refine mb_l_cons (ms_imul dX8_keeps_102 rfl) ?_
  refine mb_l_cons (ms_iload dX8_keeps_103 rfl) ?_
  refine mb_l_cons (ms_iadd dX8_keeps_105 rfl) ?_
  refine mb_l_cons (ms_aload_n dX8_keeps_106 rfl rfl) ?_
  refine mb_l_cons (ms_iload_n dX8_keeps_107 rfl rfl) ?_
  refine mb_l_cons (ms_iload dX8_keeps_108 rfl) ?_
  refine mb_l_cons (ms_calls hX (y := 91) (y0 := yX8_rigOf) (bytes := cX8_rigOf) rfl mq_X8_99_X8_rigOf mw_864 mw_865 dX8_keeps_110 rfl) ?_
  refine mb_l_cons (ms_iload dX8_keeps_113 rfl) ?_
  refine mb_l_cons (ms_aload_n dX8_keeps_115 rfl rfl) ?_
  refine mb_l_cons (ms_getf (ci := 8) (kf := 15) hX (C := RX8) (T := TX8) (N := 26) rfl (by decide) mu_X8 (Or.inl mw_768) dX8_keeps_116 rfl) ?_
  refine mb_l_cons (ms_bipush dX8_keeps_119 rfl rfl) ?_
  refine mb_l_cons (ms_iload_n dX8_keeps_121 rfl rfl) ?_
  refine mb_l_cons (ms_imul dX8_keeps_122 rfl) ?_
  refine mb_l_cons (ms_iload_n dX8_keeps_123 rfl rfl) ?_
  refine mb_l_cons (ms_iadd dX8_keeps_124 rfl) ?_
  refine mb_l_cons (ms_iald hX dX8_keeps_125 rfl) ?_
  refine mb_l_cons (ms_callv (ci := 8) hX (y := 98) (y0 := yX8_poseOf) (bytes := cX8_poseOf) rfl (C := RX8) (T := TX8) (N := 26) rfl mq_X8_129_X8_poseOf mw_903 mw_905 mw_30 dX8_keeps_126 (fun _ _ _ h => nomatch h) rfl) ?_
  refine mb_l_cons (ms_iast hX dX8_keeps_129 rfl) ?_
  refine mb_l_cons (ms_iinc dX8_keeps_130 rfl rfl) ?_
  refine mb_l_cons (ms_goto dX8_keeps_133 rfl) ?_
  refine mb_l_cons (ms_iinc dX8_keeps_136 rfl rfl) ?_
  refine mb_l_cons (ms_goto dX8_keeps_139 rfl) ?_
  refine mb_l_cons (ms_vret dX8_keeps_142 rfl) ?_
  exact mb_l_nil
theorem mr_X8_renders (hX : mb_Fx l D cT s0 args0) : ∀ pc i, mb_look mc_X8_renders pc = some i → mb_Snd l D cT s0 mb_mt RX8 "renders" cX8_renders 3 none [] pc i := by
  unfold mc_X8_renders
  refine mb_l_cons (ms_aload_n dX8_renders_0 rfl rfl) ?_
  refine mb_l_cons (ms_iload_n dX8_renders_1 rfl rfl) ?_
  refine mb_l_cons (ms_iload_n dX8_renders_2 rfl rfl) ?_
  refine mb_l_cons (ms_callv (ci := 8) hX (y := 124) (y0 := yX8_keeps) (bytes := cX8_keeps) rfl (C := RX8) (T := TX8) (N := 26) rfl mq_X8_165_X8_keeps mw_994 mw_996 mw_43 dX8_renders_3 (fun _ _ _ h => nomatch h) rfl) ?_
  refine mb_l_cons (ms_aload_n dX8_renders_6 rfl rfl) ?_
  refine mb_l_cons (ms_getf (ci := 8) (kf := 16) hX (C := RX8) (T := TX8) (N := 26) rfl (by decide) mu_X8 (Or.inl mw_769) dX8_renders_7 rfl) ?_
  refine mb_l_cons (ms_bipush dX8_renders_10 rfl rfl) ?_
  refine mb_l_cons (ms_iload_n dX8_renders_12 rfl rfl) ?_
  refine mb_l_cons (ms_imul dX8_renders_13 rfl) ?_
  refine mb_l_cons (ms_iload_n dX8_renders_14 rfl rfl) ?_
  refine mb_l_cons (ms_iadd dX8_renders_15 rfl) ?_
  refine mb_l_cons (ms_dup2 dX8_renders_16 rfl) ?_
  refine mb_l_cons (ms_iald hX dX8_renders_17 rfl) ?_
  refine mb_l_cons (ms_iconst dX8_renders_18 rfl rfl) ?_
  refine mb_l_cons (ms_iadd dX8_renders_19 rfl) ?_
  refine mb_l_cons (ms_iast hX dX8_renders_20 rfl) ?_
  refine mb_l_cons (ms_aload_n dX8_renders_21 rfl rfl) ?_
  refine mb_l_cons (ms_dup dX8_renders_22 rfl) ?_
  refine mb_l_cons (ms_getf (ci := 8) (kf := 20) hX (C := RX8) (T := TX8) (N := 26) rfl (by decide) mu_X8 (Or.inl mw_773) dX8_renders_23 rfl) ?_
  refine mb_l_cons (ms_iconst dX8_renders_26 rfl rfl) ?_
  refine mb_l_cons (ms_iadd dX8_renders_27 rfl) ?_
  refine mb_l_cons (ms_putf (ci := 8) (kf := 20) (z := 0) hX (C := RX8) (T := TX8) (N := 26) rfl (by decide) mu_X8 tyX8 tyX8_ok nmX8 (Or.inl ⟨rfl, rfl⟩) rfl (Or.inl mw_773) dX8_renders_28 rfl) ?_
  refine mb_l_cons (ms_vret dX8_renders_31 rfl) ?_
  exact mb_l_nil
theorem mr_X8_render (hX : mb_Fx l D cT s0 args0) : ∀ pc i, mb_look mc_X8_render pc = some i → mb_Snd l D cT s0 mb_mt RX8 "render" cX8_render 4 (some .int) [] pc i := by
  unfold mc_X8_render
  refine mb_l_cons (ms_aload_n dX8_render_0 rfl rfl) ?_
  refine mb_l_cons (ms_aload_n dX8_render_1 rfl rfl) ?_
  refine mb_l_cons (ms_iload_n dX8_render_2 rfl rfl) ?_
  refine mb_l_cons (ms_callv (ci := 8) hX (y := 89) (y0 := yX8_isScene) (bytes := cX8_isScene) rfl (C := RX8) (T := TX8) (N := 26) rfl mq_X8_88_X8_isScene mw_934 mw_936 mw_33 dX8_render_3 (fun _ _ _ h => nomatch h) rfl) ?_
  refine mb_l_cons (ms_if_eq dX8_render_6 rfl rfl) ?_
  refine mb_l_cons (ms_iconst dX8_render_9 rfl rfl) ?_
  refine mb_l_cons (ms_goto dX8_render_10 rfl) ?_
  refine mb_l_cons (ms_iconst dX8_render_13 rfl rfl) ?_
  refine mb_l_cons (ms_callv (ci := 8) hX (y := 86) (y0 := yX8_holds) (bytes := cX8_holds) rfl (C := RX8) (T := TX8) (N := 26) rfl mq_X8_112_X8_holds mw_841 mw_843 mw_21 dX8_render_14 (fun _ _ _ h => nomatch h) rfl) ?_
  refine mb_l_cons (ms_if_ne dX8_render_17 rfl rfl) ?_
  refine mb_l_cons (ms_iconst dX8_render_20 rfl rfl) ?_
  refine mb_l_cons (ms_iret dX8_render_21 rfl) ?_
  refine mb_l_cons (ms_iconst dX8_render_22 rfl rfl) ?_
  refine mb_l_cons (ms_istore_n dX8_render_23 rfl rfl) ?_
  refine mb_l_cons (ms_iconst dX8_render_24 rfl rfl) ?_
  refine mb_l_cons (ms_istore_n dX8_render_25 rfl rfl) ?_
  refine mb_l_cons (ms_iload_n dX8_render_26 rfl rfl) ?_
  refine mb_l_cons (ms_aload_n dX8_render_27 rfl rfl) ?_
  refine mb_l_cons (ms_getf (ci := 8) (kf := 10) hX (C := RX8) (T := TX8) (N := 26) rfl (by decide) mu_X8 (Or.inl mw_763) dX8_render_28 rfl) ?_
  refine mb_l_cons (ms_iload_n dX8_render_31 rfl rfl) ?_
  refine mb_l_cons (ms_iald hX dX8_render_32 rfl) ?_
  refine mb_l_cons (ms_icmp_ge dX8_render_33 rfl rfl) ?_
  refine mb_l_cons (ms_aload_n dX8_render_36 rfl rfl) ?_
  refine mb_l_cons (ms_iload_n dX8_render_37 rfl rfl) ?_
  refine mb_l_cons (ms_iload_n dX8_render_38 rfl rfl) ?_
  refine mb_l_cons (ms_callv (ci := 8) hX (y := 123) (y0 := yX8_isNeeded) (bytes := cX8_isNeeded) rfl (C := RX8) (T := TX8) (N := 26) rfl mq_X8_171_X8_isNeeded mw_974 mw_976 mw_38 dX8_render_39 (fun _ _ _ h => nomatch h) rfl) ?_
  refine mb_l_cons (ms_if_eq dX8_render_42 rfl rfl) ?_
  refine mb_l_cons (ms_aload_n dX8_render_45 rfl rfl) ?_
  refine mb_l_cons (ms_iload_n dX8_render_46 rfl rfl) ?_
  refine mb_l_cons (ms_iload_n dX8_render_47 rfl rfl) ?_
  refine mb_l_cons (ms_callv (ci := 8) hX (y := 125) (y0 := yX8_renders) (bytes := cX8_renders) rfl (C := RX8) (T := TX8) (N := 26) rfl mq_X8_174_X8_renders mw_990 mw_992 mw_42 dX8_render_48 (fun _ _ _ h => nomatch h) rfl) ?_
  refine mb_l_cons (ms_iinc dX8_render_51 rfl rfl) ?_
  refine mb_l_cons (ms_goto dX8_render_54 rfl) ?_
  refine mb_l_cons (ms_aload_n dX8_render_57 rfl rfl) ?_
  refine mb_l_cons (ms_iload_n dX8_render_58 rfl rfl) ?_
  refine mb_l_cons (ms_iload_n dX8_render_59 rfl rfl) ?_
  refine mb_l_cons (ms_callv (ci := 8) hX (y := 124) (y0 := yX8_keeps) (bytes := cX8_keeps) rfl (C := RX8) (T := TX8) (N := 26) rfl mq_X8_165_X8_keeps mw_994 mw_996 mw_43 dX8_render_60 (fun _ _ _ h => nomatch h) rfl) ?_
  refine mb_l_cons (ms_iinc dX8_render_63 rfl rfl) ?_
  refine mb_l_cons (ms_goto dX8_render_66 rfl) ?_
  refine mb_l_cons (ms_iload_n dX8_render_69 rfl rfl) ?_
  refine mb_l_cons (ms_iret dX8_render_70 rfl) ?_
  exact mb_l_nil
theorem mr_X8_renderOne (hX : mb_Fx l D cT s0 args0) : ∀ pc i, mb_look mc_X8_renderOne pc = some i → mb_Snd l D cT s0 mb_mt RX8 "renderOne" cX8_renderOne 4 (some .boolean) [] pc i := by
  unfold mc_X8_renderOne
  refine mb_l_cons (ms_aload_n dX8_renderOne_0 rfl rfl) ?_
  refine mb_l_cons (ms_aload_n dX8_renderOne_1 rfl rfl) ?_
  refine mb_l_cons (ms_iload_n dX8_renderOne_2 rfl rfl) ?_
  refine mb_l_cons (ms_iload_n dX8_renderOne_3 rfl rfl) ?_
  refine mb_l_cons (ms_callv (ci := 8) hX (y := 90) (y0 := yX8_isFrame) (bytes := cX8_isFrame) rfl (C := RX8) (T := TX8) (N := 26) rfl mq_X8_141_X8_isFrame mw_942 mw_944 mw_34 dX8_renderOne_4 (fun _ _ _ h => nomatch h) rfl) ?_
  refine mb_l_cons (ms_if_eq dX8_renderOne_7 rfl rfl) ?_
  refine mb_l_cons (ms_iconst dX8_renderOne_10 rfl rfl) ?_
  refine mb_l_cons (ms_goto dX8_renderOne_11 rfl) ?_
  refine mb_l_cons (ms_iconst dX8_renderOne_14 rfl rfl) ?_
  refine mb_l_cons (ms_callv (ci := 8) hX (y := 86) (y0 := yX8_holds) (bytes := cX8_holds) rfl (C := RX8) (T := TX8) (N := 26) rfl mq_X8_112_X8_holds mw_841 mw_843 mw_21 dX8_renderOne_15 (fun _ _ _ h => nomatch h) rfl) ?_
  refine mb_l_cons (ms_if_ne dX8_renderOne_18 rfl rfl) ?_
  refine mb_l_cons (ms_iconst dX8_renderOne_21 rfl rfl) ?_
  refine mb_l_cons (ms_zret dX8_renderOne_22 rfl) ?_
  refine mb_l_cons (ms_aload_n dX8_renderOne_23 rfl rfl) ?_
  refine mb_l_cons (ms_iload_n dX8_renderOne_24 rfl rfl) ?_
  refine mb_l_cons (ms_iload_n dX8_renderOne_25 rfl rfl) ?_
  refine mb_l_cons (ms_callv (ci := 8) hX (y := 123) (y0 := yX8_isNeeded) (bytes := cX8_isNeeded) rfl (C := RX8) (T := TX8) (N := 26) rfl mq_X8_171_X8_isNeeded mw_974 mw_976 mw_38 dX8_renderOne_26 (fun _ _ _ h => nomatch h) rfl) ?_
  refine mb_l_cons (ms_istore_n dX8_renderOne_29 rfl rfl) ?_
  refine mb_l_cons (ms_aload_n dX8_renderOne_30 rfl rfl) ?_
  refine mb_l_cons (ms_iload_n dX8_renderOne_31 rfl rfl) ?_
  refine mb_l_cons (ms_iload_n dX8_renderOne_32 rfl rfl) ?_
  refine mb_l_cons (ms_callv (ci := 8) hX (y := 125) (y0 := yX8_renders) (bytes := cX8_renders) rfl (C := RX8) (T := TX8) (N := 26) rfl mq_X8_174_X8_renders mw_990 mw_992 mw_42 dX8_renderOne_33 (fun _ _ _ h => nomatch h) rfl) ?_
  refine mb_l_cons (ms_iload_n dX8_renderOne_36 rfl rfl) ?_
  refine mb_l_cons (ms_zret dX8_renderOne_37 rfl) ?_
  exact mb_l_nil
theorem mr_X8_needed (hX : mb_Fx l D cT s0 args0) : ∀ pc i, mb_look mc_X8_needed pc = some i → mb_Snd l D cT s0 mb_mt RX8 "needed" cX8_needed 4 (some .int) [] pc i := by
  unfold mc_X8_needed
  refine mb_l_cons (ms_iconst dX8_needed_0 rfl rfl) ?_
  refine mb_l_cons (ms_istore_n dX8_needed_1 rfl rfl) ?_
  refine mb_l_cons (ms_iconst dX8_needed_2 rfl rfl) ?_
  refine mb_l_cons (ms_istore_n dX8_needed_3 rfl rfl) ?_
  refine mb_l_cons (ms_iload_n dX8_needed_4 rfl rfl) ?_
  refine mb_l_cons (ms_aload_n dX8_needed_5 rfl rfl) ?_
  refine mb_l_cons (ms_getf (ci := 8) (kf := 10) hX (C := RX8) (T := TX8) (N := 26) rfl (by decide) mu_X8 (Or.inl mw_763) dX8_needed_6 rfl) ?_
  refine mb_l_cons (ms_iload_n dX8_needed_9 rfl rfl) ?_
  refine mb_l_cons (ms_iald hX dX8_needed_10 rfl) ?_
  refine mb_l_cons (ms_icmp_ge dX8_needed_11 rfl rfl) ?_
  refine mb_l_cons (ms_iload_n dX8_needed_14 rfl rfl) ?_
  refine mb_l_cons (ms_aload_n dX8_needed_15 rfl rfl) ?_
  refine mb_l_cons (ms_iload_n dX8_needed_16 rfl rfl) ?_
  refine mb_l_cons (ms_iload_n dX8_needed_17 rfl rfl) ?_
  refine mb_l_cons (ms_callv (ci := 8) hX (y := 123) (y0 := yX8_isNeeded) (bytes := cX8_isNeeded) rfl (C := RX8) (T := TX8) (N := 26) rfl mq_X8_171_X8_isNeeded mw_974 mw_976 mw_38 dX8_needed_18 (fun _ _ _ h => nomatch h) rfl) ?_
  refine mb_l_cons (ms_if_eq dX8_needed_21 rfl rfl) ?_
  refine mb_l_cons (ms_iconst dX8_needed_24 rfl rfl) ?_
  refine mb_l_cons (ms_goto dX8_needed_25 rfl) ?_
  refine mb_l_cons (ms_iconst dX8_needed_28 rfl rfl) ?_
  refine mb_l_cons (ms_iadd dX8_needed_29 rfl) ?_
  refine mb_l_cons (ms_istore_n dX8_needed_30 rfl rfl) ?_
  refine mb_l_cons (ms_iinc dX8_needed_31 rfl rfl) ?_
  refine mb_l_cons (ms_goto dX8_needed_34 rfl) ?_
  refine mb_l_cons (ms_iload_n dX8_needed_37 rfl rfl) ?_
  refine mb_l_cons (ms_iret dX8_needed_38 rfl) ?_
  exact mb_l_nil
theorem mr_X8_needs (hX : mb_Fx l D cT s0 args0) : ∀ pc i, mb_look mc_X8_needs pc = some i → mb_Snd l D cT s0 mb_mt RX8 "needs" cX8_needs 2 (some .int) [] pc i := by
  unfold mc_X8_needs
  refine mb_l_cons (ms_aload_n dX8_needs_0 rfl rfl) ?_
  refine mb_l_cons (ms_aload_n dX8_needs_1 rfl rfl) ?_
  refine mb_l_cons (ms_iload_n dX8_needs_2 rfl rfl) ?_
  refine mb_l_cons (ms_callv (ci := 8) hX (y := 89) (y0 := yX8_isScene) (bytes := cX8_isScene) rfl (C := RX8) (T := TX8) (N := 26) rfl mq_X8_88_X8_isScene mw_934 mw_936 mw_33 dX8_needs_3 (fun _ _ _ h => nomatch h) rfl) ?_
  refine mb_l_cons (ms_if_eq dX8_needs_6 rfl rfl) ?_
  refine mb_l_cons (ms_iconst dX8_needs_9 rfl rfl) ?_
  refine mb_l_cons (ms_goto dX8_needs_10 rfl) ?_
  refine mb_l_cons (ms_iconst dX8_needs_13 rfl rfl) ?_
  refine mb_l_cons (ms_callv (ci := 8) hX (y := 86) (y0 := yX8_holds) (bytes := cX8_holds) rfl (C := RX8) (T := TX8) (N := 26) rfl mq_X8_112_X8_holds mw_841 mw_843 mw_21 dX8_needs_14 (fun _ _ _ h => nomatch h) rfl) ?_
  refine mb_l_cons (ms_if_eq dX8_needs_17 rfl rfl) ?_
  refine mb_l_cons (ms_aload_n dX8_needs_20 rfl rfl) ?_
  refine mb_l_cons (ms_iload_n dX8_needs_21 rfl rfl) ?_
  refine mb_l_cons (ms_callv (ci := 8) hX (y := 128) (y0 := yX8_needed) (bytes := cX8_needed) rfl (C := RX8) (T := TX8) (N := 26) rfl mq_X8_177_X8_needed mw_1006 mw_1008 mw_44 dX8_needs_22 (fun _ _ _ h => nomatch h) rfl) ?_
  refine mb_l_cons (ms_goto dX8_needs_25 rfl) ?_
  refine mb_l_cons (ms_iconst dX8_needs_28 rfl rfl) ?_
  refine mb_l_cons (ms_iret dX8_needs_29 rfl) ?_
  exact mb_l_nil
theorem mr_X8_isMixed (hX : mb_Fx l D cT s0 args0) : ∀ pc i, mb_look mc_X8_isMixed pc = some i → mb_Snd l D cT s0 mb_mt RX8 "isMixed" cX8_isMixed 8 (some .boolean) [] pc i := by
  unfold mc_X8_isMixed
  refine mb_l_cons (ms_iconst dX8_isMixed_0 rfl rfl) ?_
  refine mb_l_cons (ms_istore_n dX8_isMixed_1 rfl rfl) ?_
  refine mb_l_cons (ms_iconst dX8_isMixed_2 rfl rfl) ?_
  refine mb_l_cons (ms_istore dX8_isMixed_3 rfl) ?_
  refine mb_l_cons (ms_iconst dX8_isMixed_5 rfl rfl) ?_
  refine mb_l_cons (ms_istore dX8_isMixed_6 rfl) ?_
  refine mb_l_cons (ms_iload dX8_isMixed_8 rfl) ?_
  refine mb_l_cons (ms_aload_n dX8_isMixed_10 rfl rfl) ?_
  refine mb_l_cons (ms_getf (ci := 8) (kf := 10) hX (C := RX8) (T := TX8) (N := 26) rfl (by decide) mu_X8 (Or.inl mw_763) dX8_isMixed_11 rfl) ?_
  refine mb_l_cons (ms_iload_n dX8_isMixed_14 rfl rfl) ?_
  refine mb_l_cons (ms_iald hX dX8_isMixed_15 rfl) ?_
  refine mb_l_cons (ms_icmp_ge dX8_isMixed_16 rfl rfl) ?_
  refine mb_l_cons (ms_bipush dX8_isMixed_19 rfl rfl) ?_
  refine mb_l_cons (ms_iload_n dX8_isMixed_21 rfl rfl) ?_
  refine mb_l_cons (ms_imul dX8_isMixed_22 rfl) ?_
  refine mb_l_cons (ms_iload dX8_isMixed_23 rfl) ?_
  refine mb_l_cons (ms_iadd dX8_isMixed_25 rfl) ?_
  refine mb_l_cons (ms_istore dX8_isMixed_26 rfl) ?_
  refine mb_l_cons (ms_aload_n dX8_isMixed_28 rfl rfl) ?_
  refine mb_l_cons (ms_getf (ci := 8) (kf := 16) hX (C := RX8) (T := TX8) (N := 26) rfl (by decide) mu_X8 (Or.inl mw_769) dX8_isMixed_29 rfl) ?_
  refine mb_l_cons (ms_iload dX8_isMixed_32 rfl) ?_
  refine mb_l_cons (ms_iald hX dX8_isMixed_34 rfl) ?_
  refine mb_l_cons (ms_if_ne dX8_isMixed_35 rfl rfl) ?_
  refine mb_l_cons (ms_iconst dX8_isMixed_38 rfl rfl) ?_
  refine mb_l_cons (ms_goto dX8_isMixed_39 rfl) ?_
  refine mb_l_cons (ms_aload_n dX8_isMixed_42 rfl rfl) ?_
  refine mb_l_cons (ms_getf (ci := 8) (kf := 17) hX (C := RX8) (T := TX8) (N := 26) rfl (by decide) mu_X8 (Or.inl mw_770) dX8_isMixed_43 rfl) ?_
  refine mb_l_cons (ms_bipush dX8_isMixed_46 rfl rfl) ?_
  refine mb_l_cons (ms_iload dX8_isMixed_48 rfl) ?_
  refine mb_l_cons (ms_imul dX8_isMixed_50 rfl) ?_
  refine mb_l_cons (ms_iload_n dX8_isMixed_51 rfl rfl) ?_
  refine mb_l_cons (ms_iadd dX8_isMixed_52 rfl) ?_
  refine mb_l_cons (ms_iald hX dX8_isMixed_53 rfl) ?_
  refine mb_l_cons (ms_istore dX8_isMixed_54 rfl) ?_
  refine mb_l_cons (ms_iload dX8_isMixed_56 rfl) ?_
  refine mb_l_cons (ms_if_ne dX8_isMixed_58 rfl rfl) ?_
  refine mb_l_cons (ms_iload dX8_isMixed_61 rfl) ?_
  refine mb_l_cons (ms_iconst dX8_isMixed_63 rfl rfl) ?_
  refine mb_l_cons (ms_icmp_eq dX8_isMixed_64 rfl rfl) ?_
  refine mb_l_cons (ms_iload_n dX8_isMixed_67 rfl rfl) ?_
  refine mb_l_cons (ms_iconst dX8_isMixed_68 rfl rfl) ?_
  refine mb_l_cons (ms_icmp_eq dX8_isMixed_69 rfl rfl) ?_
  refine mb_l_cons (ms_iload dX8_isMixed_72 rfl) ?_
  refine mb_l_cons (ms_iload_n dX8_isMixed_74 rfl rfl) ?_
  refine mb_l_cons (ms_icmp_eq dX8_isMixed_75 rfl rfl) ?_
  refine mb_l_cons (ms_iconst dX8_isMixed_78 rfl rfl) ?_
  refine mb_l_cons (ms_goto dX8_isMixed_79 rfl) ?_
  refine mb_l_cons (ms_iconst dX8_isMixed_82 rfl rfl) ?_
  refine mb_l_cons (ms_istore dX8_isMixed_83 rfl) ?_
  refine mb_l_cons (ms_iload_n dX8_isMixed_85 rfl rfl) ?_
  refine mb_l_cons (ms_iconst dX8_isMixed_86 rfl rfl) ?_
  refine mb_l_cons (ms_icmp_ne dX8_isMixed_87 rfl rfl) ?_
  refine mb_l_cons (ms_iload dX8_isMixed_90 rfl) ?_
  refine mb_l_cons (ms_goto dX8_isMixed_92 rfl) ?_
  refine mb_l_cons (ms_iload_n dX8_isMixed_95 rfl rfl) ?_
  refine mb_l_cons (ms_istore_n dX8_isMixed_96 rfl rfl) ?_
  refine mb_l_cons (ms_iinc dX8_isMixed_97 rfl rfl) ?_
  refine mb_l_cons (ms_goto dX8_isMixed_100 rfl) ?_
  refine mb_l_cons (ms_iload dX8_isMixed_103 rfl) ?_
  refine mb_l_cons (ms_zret dX8_isMixed_105 rfl) ?_
  exact mb_l_nil
theorem mr_X8_mixed (hX : mb_Fx l D cT s0 args0) : ∀ pc i, mb_look mc_X8_mixed pc = some i → mb_Snd l D cT s0 mb_mt RX8 "mixed" cX8_mixed 5 (some .int) [] pc i := by
  unfold mc_X8_mixed
  refine mb_l_cons (ms_iconst dX8_mixed_0 rfl rfl) ?_
  refine mb_l_cons (ms_istore_n dX8_mixed_1 rfl rfl) ?_
  refine mb_l_cons (ms_iconst dX8_mixed_2 rfl rfl) ?_
  refine mb_l_cons (ms_istore_n dX8_mixed_3 rfl rfl) ?_
  refine mb_l_cons (ms_iload_n dX8_mixed_4 rfl rfl) ?_
  refine mb_l_cons (ms_aload_n dX8_mixed_5 rfl rfl) ?_
  refine mb_l_cons (ms_getf (ci := 8) (kf := 1) hX (C := RX8) (T := TX8) (N := 26) rfl (by decide) mu_X8 (Or.inl mw_754) dX8_mixed_6 rfl) ?_
  refine mb_l_cons (ms_icmp_ge dX8_mixed_9 rfl rfl) ?_
  refine mb_l_cons (ms_bipush dX8_mixed_12 rfl rfl) ?_
  refine mb_l_cons (ms_iload_n dX8_mixed_14 rfl rfl) ?_
  refine mb_l_cons (ms_imul dX8_mixed_15 rfl) ?_
  refine mb_l_cons (ms_iload_n dX8_mixed_16 rfl rfl) ?_
  refine mb_l_cons (ms_iadd dX8_mixed_17 rfl) ?_
  refine mb_l_cons (ms_istore dX8_mixed_18 rfl) ?_
  refine mb_l_cons (ms_iload_n dX8_mixed_20 rfl rfl) ?_
  refine mb_l_cons (ms_aload_n dX8_mixed_21 rfl rfl) ?_
  refine mb_l_cons (ms_getf (ci := 8) (kf := 11) hX (C := RX8) (T := TX8) (N := 26) rfl (by decide) mu_X8 (Or.inl mw_764) dX8_mixed_22 rfl) ?_
  refine mb_l_cons (ms_iload dX8_mixed_25 rfl) ?_
  refine mb_l_cons (ms_zald hX dX8_mixed_27 rfl) ?_
  refine mb_l_cons (ms_if_eq dX8_mixed_28 rfl rfl) ?_
  refine mb_l_cons (ms_aload_n dX8_mixed_31 rfl rfl) ?_
  refine mb_l_cons (ms_getf (ci := 8) (kf := 12) hX (C := RX8) (T := TX8) (N := 26) rfl (by decide) mu_X8 (Or.inl mw_765) dX8_mixed_32 rfl) ?_
  refine mb_l_cons (ms_iload dX8_mixed_35 rfl) ?_
  refine mb_l_cons (ms_iald hX dX8_mixed_37 rfl) ?_
  refine mb_l_cons (ms_iconst dX8_mixed_38 rfl rfl) ?_
  refine mb_l_cons (ms_icmp_ne dX8_mixed_39 rfl rfl) ?_
  refine mb_l_cons (ms_aload_n dX8_mixed_42 rfl rfl) ?_
  refine mb_l_cons (ms_iload_n dX8_mixed_43 rfl rfl) ?_
  refine mb_l_cons (ms_iload_n dX8_mixed_44 rfl rfl) ?_
  refine mb_l_cons (ms_callv (ci := 8) hX (y := 130) (y0 := yX8_isMixed) (bytes := cX8_isMixed) rfl (C := RX8) (T := TX8) (N := 26) rfl mq_X8_180_X8_isMixed mw_1018 mw_1020 mw_46 dX8_mixed_45 (fun _ _ _ h => nomatch h) rfl) ?_
  refine mb_l_cons (ms_if_eq dX8_mixed_48 rfl rfl) ?_
  refine mb_l_cons (ms_iconst dX8_mixed_51 rfl rfl) ?_
  refine mb_l_cons (ms_goto dX8_mixed_52 rfl) ?_
  refine mb_l_cons (ms_iconst dX8_mixed_55 rfl rfl) ?_
  refine mb_l_cons (ms_iadd dX8_mixed_56 rfl) ?_
  refine mb_l_cons (ms_istore_n dX8_mixed_57 rfl rfl) ?_
  refine mb_l_cons (ms_iinc dX8_mixed_58 rfl rfl) ?_
  refine mb_l_cons (ms_goto dX8_mixed_61 rfl) ?_
  refine mb_l_cons (ms_iload_n dX8_mixed_64 rfl rfl) ?_
  refine mb_l_cons (ms_iret dX8_mixed_65 rfl) ?_
  exact mb_l_nil
theorem mr_X8_mixes (hX : mb_Fx l D cT s0 args0) : ∀ pc i, mb_look mc_X8_mixes pc = some i → mb_Snd l D cT s0 mb_mt RX8 "mixes" cX8_mixes 2 (some .int) [] pc i := by
  unfold mc_X8_mixes
  refine mb_l_cons (ms_aload_n dX8_mixes_0 rfl rfl) ?_
  refine mb_l_cons (ms_aload_n dX8_mixes_1 rfl rfl) ?_
  refine mb_l_cons (ms_iload_n dX8_mixes_2 rfl rfl) ?_
  refine mb_l_cons (ms_callv (ci := 8) hX (y := 89) (y0 := yX8_isScene) (bytes := cX8_isScene) rfl (C := RX8) (T := TX8) (N := 26) rfl mq_X8_88_X8_isScene mw_934 mw_936 mw_33 dX8_mixes_3 (fun _ _ _ h => nomatch h) rfl) ?_
  refine mb_l_cons (ms_if_eq dX8_mixes_6 rfl rfl) ?_
  refine mb_l_cons (ms_iconst dX8_mixes_9 rfl rfl) ?_
  refine mb_l_cons (ms_goto dX8_mixes_10 rfl) ?_
  refine mb_l_cons (ms_iconst dX8_mixes_13 rfl rfl) ?_
  refine mb_l_cons (ms_callv (ci := 8) hX (y := 86) (y0 := yX8_holds) (bytes := cX8_holds) rfl (C := RX8) (T := TX8) (N := 26) rfl mq_X8_112_X8_holds mw_841 mw_843 mw_21 dX8_mixes_14 (fun _ _ _ h => nomatch h) rfl) ?_
  refine mb_l_cons (ms_if_eq dX8_mixes_17 rfl rfl) ?_
  refine mb_l_cons (ms_aload_n dX8_mixes_20 rfl rfl) ?_
  refine mb_l_cons (ms_iload_n dX8_mixes_21 rfl rfl) ?_
  refine mb_l_cons (ms_callv (ci := 8) hX (y := 131) (y0 := yX8_mixed) (bytes := cX8_mixed) rfl (C := RX8) (T := TX8) (N := 26) rfl mq_X8_183_X8_mixed mw_1014 mw_1016 mw_45 dX8_mixes_22 (fun _ _ _ h => nomatch h) rfl) ?_
  refine mb_l_cons (ms_goto dX8_mixes_25 rfl) ?_
  refine mb_l_cons (ms_iconst dX8_mixes_28 rfl rfl) ?_
  refine mb_l_cons (ms_iret dX8_mixes_29 rfl) ?_
  exact mb_l_nil
theorem mr_X8_bonesAt (hX : mb_Fx l D cT s0 args0) : ∀ pc i, mb_look mc_X8_bonesAt pc = some i → mb_Snd l D cT s0 mb_mt RX8 "bonesAt" cX8_bonesAt 5 (some .int) [] pc i := by
  unfold mc_X8_bonesAt
  refine mb_l_cons (ms_iconst dX8_bonesAt_0 rfl rfl) ?_
  refine mb_l_cons (ms_istore_n dX8_bonesAt_1 rfl rfl) ?_
  refine mb_l_cons (ms_iconst dX8_bonesAt_2 rfl rfl) ?_
  refine mb_l_cons (ms_istore dX8_bonesAt_3 rfl) ?_
  refine mb_l_cons (ms_iload dX8_bonesAt_5 rfl) ?_
  refine mb_l_cons (ms_aload_n dX8_bonesAt_7 rfl rfl) ?_
  refine mb_l_cons (ms_getf (ci := 8) (kf := 1) hX (C := RX8) (T := TX8) (N := 26) rfl (by decide) mu_X8 (Or.inl mw_754) dX8_bonesAt_8 rfl) ?_
  refine mb_l_cons (ms_icmp_ge dX8_bonesAt_11 rfl rfl) ?_
  refine mb_l_cons (ms_iload_n dX8_bonesAt_14 rfl rfl) ?_
  refine mb_l_cons (ms_aload_n dX8_bonesAt_15 rfl rfl) ?_
  refine mb_l_cons (ms_iload_n dX8_bonesAt_16 rfl rfl) ?_
  refine mb_l_cons (ms_iload_n dX8_bonesAt_17 rfl rfl) ?_
  refine mb_l_cons (ms_iload dX8_bonesAt_18 rfl) ?_
  refine mb_l_cons (ms_callv (ci := 8) hX (y := 121) (y0 := yX8_seenBones) (bytes := cX8_seenBones) rfl (C := RX8) (T := TX8) (N := 26) rfl mq_X8_159_X8_seenBones mw_982 mw_984 mw_40 dX8_bonesAt_20 (fun _ _ _ h => nomatch h) rfl) ?_
  refine mb_l_cons (ms_iadd dX8_bonesAt_23 rfl) ?_
  refine mb_l_cons (ms_istore_n dX8_bonesAt_24 rfl rfl) ?_
  refine mb_l_cons (ms_iinc dX8_bonesAt_25 rfl rfl) ?_
  refine mb_l_cons (ms_goto dX8_bonesAt_28 rfl) ?_
  refine mb_l_cons (ms_iload_n dX8_bonesAt_31 rfl rfl) ?_
  refine mb_l_cons (ms_iret dX8_bonesAt_32 rfl) ?_
  exact mb_l_nil
theorem mr_X8_toldFrame (hX : mb_Fx l D cT s0 args0) : ∀ pc i, mb_look mc_X8_toldFrame pc = some i → mb_Snd l D cT s0 mb_mt RX8 "toldFrame" cX8_toldFrame 5 (some .int) [] pc i := by
  unfold mc_X8_toldFrame
  refine mb_l_cons (ms_bipush dX8_toldFrame_0 rfl rfl) ?_
  refine mb_l_cons (ms_iload_n dX8_toldFrame_2 rfl rfl) ?_
  refine mb_l_cons (ms_imul dX8_toldFrame_3 rfl) ?_
  refine mb_l_cons (ms_iload_n dX8_toldFrame_4 rfl rfl) ?_
  refine mb_l_cons (ms_iadd dX8_toldFrame_5 rfl) ?_
  refine mb_l_cons (ms_istore dX8_toldFrame_6 rfl) ?_
  refine mb_l_cons (ms_iload_n dX8_toldFrame_8 rfl rfl) ?_
  refine mb_l_cons (ms_tsw dX8_toldFrame_9 rfl rfl rfl) ?_
  refine mb_l_cons (ms_aload_n dX8_toldFrame_44 rfl rfl) ?_
  refine mb_l_cons (ms_getf (ci := 8) (kf := 15) hX (C := RX8) (T := TX8) (N := 26) rfl (by decide) mu_X8 (Or.inl mw_768) dX8_toldFrame_45 rfl) ?_
  refine mb_l_cons (ms_iload dX8_toldFrame_48 rfl) ?_
  refine mb_l_cons (ms_iald hX dX8_toldFrame_50 rfl) ?_
  refine mb_l_cons (ms_iret dX8_toldFrame_51 rfl) ?_
  refine mb_l_cons (ms_aload_n dX8_toldFrame_52 rfl rfl) ?_
  refine mb_l_cons (ms_getf (ci := 8) (kf := 16) hX (C := RX8) (T := TX8) (N := 26) rfl (by decide) mu_X8 (Or.inl mw_769) dX8_toldFrame_53 rfl) ?_
  refine mb_l_cons (ms_iload dX8_toldFrame_56 rfl) ?_
  refine mb_l_cons (ms_iald hX dX8_toldFrame_58 rfl) ?_
  refine mb_l_cons (ms_if_le dX8_toldFrame_59 rfl rfl) ?_
  refine mb_l_cons (ms_iconst dX8_toldFrame_62 rfl rfl) ?_
  refine mb_l_cons (ms_goto dX8_toldFrame_63 rfl) ?_
  refine mb_l_cons (ms_iconst dX8_toldFrame_66 rfl rfl) ?_
  refine mb_l_cons (ms_iret dX8_toldFrame_67 rfl) ?_
  refine mb_l_cons (ms_aload_n dX8_toldFrame_68 rfl rfl) ?_
  refine mb_l_cons (ms_iload_n dX8_toldFrame_69 rfl rfl) ?_
  refine mb_l_cons (ms_iload_n dX8_toldFrame_70 rfl rfl) ?_
  refine mb_l_cons (ms_callv (ci := 8) hX (y := 123) (y0 := yX8_isNeeded) (bytes := cX8_isNeeded) rfl (C := RX8) (T := TX8) (N := 26) rfl mq_X8_171_X8_isNeeded mw_974 mw_976 mw_38 dX8_toldFrame_71 (fun _ _ _ h => nomatch h) rfl) ?_
  refine mb_l_cons (ms_if_eq dX8_toldFrame_74 rfl rfl) ?_
  refine mb_l_cons (ms_iconst dX8_toldFrame_77 rfl rfl) ?_
  refine mb_l_cons (ms_goto dX8_toldFrame_78 rfl) ?_
  refine mb_l_cons (ms_iconst dX8_toldFrame_81 rfl rfl) ?_
  refine mb_l_cons (ms_iret dX8_toldFrame_82 rfl) ?_
  refine mb_l_cons (ms_aload_n dX8_toldFrame_83 rfl rfl) ?_
  refine mb_l_cons (ms_iload_n dX8_toldFrame_84 rfl rfl) ?_
  refine mb_l_cons (ms_iload_n dX8_toldFrame_85 rfl rfl) ?_
  refine mb_l_cons (ms_callv (ci := 8) hX (y := 133) (y0 := yX8_bonesAt) (bytes := cX8_bonesAt) rfl (C := RX8) (T := TX8) (N := 26) rfl mq_X8_186_X8_bonesAt mw_1030 mw_1032 mw_48 dX8_toldFrame_86 (fun _ _ _ h => nomatch h) rfl) ?_
  refine mb_l_cons (ms_iret dX8_toldFrame_89 rfl) ?_
  refine mb_l_cons (ms_aload_n dX8_toldFrame_90 rfl rfl) ?_
  refine mb_l_cons (ms_iload_n dX8_toldFrame_91 rfl rfl) ?_
  refine mb_l_cons (ms_iload_n dX8_toldFrame_92 rfl rfl) ?_
  refine mb_l_cons (ms_callv (ci := 8) hX (y := 117) (y0 := yX8_unsettled) (bytes := cX8_unsettled) rfl (C := RX8) (T := TX8) (N := 26) rfl mq_X8_153_X8_unsettled mw_962 mw_964 mw_37 dX8_toldFrame_93 (fun _ _ _ h => nomatch h) rfl) ?_
  refine mb_l_cons (ms_iret dX8_toldFrame_96 rfl) ?_
  refine mb_l_cons (ms_aload_n dX8_toldFrame_97 rfl rfl) ?_
  refine mb_l_cons (ms_getf (ci := 8) (kf := 16) hX (C := RX8) (T := TX8) (N := 26) rfl (by decide) mu_X8 (Or.inl mw_769) dX8_toldFrame_98 rfl) ?_
  refine mb_l_cons (ms_iload dX8_toldFrame_101 rfl) ?_
  refine mb_l_cons (ms_iald hX dX8_toldFrame_103 rfl) ?_
  refine mb_l_cons (ms_iret dX8_toldFrame_104 rfl) ?_
  exact mb_l_nil
theorem mr_X8_ofFrame (hX : mb_Fx l D cT s0 args0) : ∀ pc i, mb_look mc_X8_ofFrame pc = some i → mb_Snd l D cT s0 mb_mt RX8 "ofFrame" cX8_ofFrame 4 (some .int) [] pc i := by
  unfold mc_X8_ofFrame
  refine mb_l_cons (ms_aload_n dX8_ofFrame_0 rfl rfl) ?_
  refine mb_l_cons (ms_aload_n dX8_ofFrame_1 rfl rfl) ?_
  refine mb_l_cons (ms_iload_n dX8_ofFrame_2 rfl rfl) ?_
  refine mb_l_cons (ms_iload_n dX8_ofFrame_3 rfl rfl) ?_
  refine mb_l_cons (ms_callv (ci := 8) hX (y := 90) (y0 := yX8_isFrame) (bytes := cX8_isFrame) rfl (C := RX8) (T := TX8) (N := 26) rfl mq_X8_141_X8_isFrame mw_942 mw_944 mw_34 dX8_ofFrame_4 (fun _ _ _ h => nomatch h) rfl) ?_
  refine mb_l_cons (ms_if_eq dX8_ofFrame_7 rfl rfl) ?_
  refine mb_l_cons (ms_iload_n dX8_ofFrame_10 rfl rfl) ?_
  refine mb_l_cons (ms_iconst dX8_ofFrame_11 rfl rfl) ?_
  refine mb_l_cons (ms_iconst dX8_ofFrame_12 rfl rfl) ?_
  refine mb_l_cons (ms_calls hX (y := 87) (y0 := yX8_isIn) (bytes := cX8_isIn) rfl mq_X8_81_X8_isIn mw_853 mw_854 dX8_ofFrame_13 rfl) ?_
  refine mb_l_cons (ms_if_eq dX8_ofFrame_16 rfl rfl) ?_
  refine mb_l_cons (ms_iconst dX8_ofFrame_19 rfl rfl) ?_
  refine mb_l_cons (ms_goto dX8_ofFrame_20 rfl) ?_
  refine mb_l_cons (ms_iconst dX8_ofFrame_23 rfl rfl) ?_
  refine mb_l_cons (ms_callv (ci := 8) hX (y := 86) (y0 := yX8_holds) (bytes := cX8_holds) rfl (C := RX8) (T := TX8) (N := 26) rfl mq_X8_112_X8_holds mw_841 mw_843 mw_21 dX8_ofFrame_24 (fun _ _ _ h => nomatch h) rfl) ?_
  refine mb_l_cons (ms_if_eq dX8_ofFrame_27 rfl rfl) ?_
  refine mb_l_cons (ms_aload_n dX8_ofFrame_30 rfl rfl) ?_
  refine mb_l_cons (ms_iload_n dX8_ofFrame_31 rfl rfl) ?_
  refine mb_l_cons (ms_iload_n dX8_ofFrame_32 rfl rfl) ?_
  refine mb_l_cons (ms_iload_n dX8_ofFrame_33 rfl rfl) ?_
  refine mb_l_cons (ms_callv (ci := 8) hX (y := 134) (y0 := yX8_toldFrame) (bytes := cX8_toldFrame) rfl (C := RX8) (T := TX8) (N := 26) rfl mq_X8_189_X8_toldFrame mw_1026 mw_1028 mw_47 dX8_ofFrame_34 (fun _ _ _ h => nomatch h) rfl) ?_
  refine mb_l_cons (ms_goto dX8_ofFrame_37 rfl) ?_
  refine mb_l_cons (ms_iconst dX8_ofFrame_40 rfl rfl) ?_
  refine mb_l_cons (ms_iret dX8_ofFrame_41 rfl) ?_
  exact mb_l_nil
theorem mr_X8_kept (hX : mb_Fx l D cT s0 args0) : ∀ pc i, mb_look mc_X8_kept pc = some i → mb_Snd l D cT s0 mb_mt RX8 "kept" cX8_kept 5 (some .int) [] pc i := by
  unfold mc_X8_kept
  refine mb_l_cons (ms_aload_n dX8_kept_0 rfl rfl) ?_
  refine mb_l_cons (ms_aload_n dX8_kept_1 rfl rfl) ?_
  refine mb_l_cons (ms_iload_n dX8_kept_2 rfl rfl) ?_
  refine mb_l_cons (ms_iload_n dX8_kept_3 rfl rfl) ?_
  refine mb_l_cons (ms_callv (ci := 8) hX (y := 90) (y0 := yX8_isFrame) (bytes := cX8_isFrame) rfl (C := RX8) (T := TX8) (N := 26) rfl mq_X8_141_X8_isFrame mw_942 mw_944 mw_34 dX8_kept_4 (fun _ _ _ h => nomatch h) rfl) ?_
  refine mb_l_cons (ms_if_eq dX8_kept_7 rfl rfl) ?_
  refine mb_l_cons (ms_aload_n dX8_kept_10 rfl rfl) ?_
  refine mb_l_cons (ms_iload_n dX8_kept_11 rfl rfl) ?_
  refine mb_l_cons (ms_callv (ci := 8) hX (y := 88) (y0 := yX8_isAsset) (bytes := cX8_isAsset) rfl (C := RX8) (T := TX8) (N := 26) rfl mq_X8_92_X8_isAsset mw_849 mw_851 mw_22 dX8_kept_12 (fun _ _ _ h => nomatch h) rfl) ?_
  refine mb_l_cons (ms_if_eq dX8_kept_15 rfl rfl) ?_
  refine mb_l_cons (ms_iconst dX8_kept_18 rfl rfl) ?_
  refine mb_l_cons (ms_goto dX8_kept_19 rfl) ?_
  refine mb_l_cons (ms_iconst dX8_kept_22 rfl rfl) ?_
  refine mb_l_cons (ms_callv (ci := 8) hX (y := 86) (y0 := yX8_holds) (bytes := cX8_holds) rfl (C := RX8) (T := TX8) (N := 26) rfl mq_X8_112_X8_holds mw_841 mw_843 mw_21 dX8_kept_23 (fun _ _ _ h => nomatch h) rfl) ?_
  refine mb_l_cons (ms_if_ne dX8_kept_26 rfl rfl) ?_
  refine mb_l_cons (ms_iconst dX8_kept_29 rfl rfl) ?_
  refine mb_l_cons (ms_iret dX8_kept_30 rfl) ?_
  refine mb_l_cons (ms_bipush dX8_kept_31 rfl rfl) ?_
  refine mb_l_cons (ms_iload_n dX8_kept_33 rfl rfl) ?_
  refine mb_l_cons (ms_imul dX8_kept_34 rfl) ?_
  refine mb_l_cons (ms_iload_n dX8_kept_35 rfl rfl) ?_
  refine mb_l_cons (ms_iadd dX8_kept_36 rfl) ?_
  refine mb_l_cons (ms_istore dX8_kept_37 rfl) ?_
  refine mb_l_cons (ms_aload_n dX8_kept_39 rfl rfl) ?_
  refine mb_l_cons (ms_getf (ci := 8) (kf := 16) hX (C := RX8) (T := TX8) (N := 26) rfl (by decide) mu_X8 (Or.inl mw_769) dX8_kept_40 rfl) ?_
  refine mb_l_cons (ms_iload dX8_kept_43 rfl) ?_
  refine mb_l_cons (ms_iald hX dX8_kept_45 rfl) ?_
  refine mb_l_cons (ms_if_ne dX8_kept_46 rfl rfl) ?_
  refine mb_l_cons (ms_iconst dX8_kept_49 rfl rfl) ?_
  refine mb_l_cons (ms_goto dX8_kept_50 rfl) ?_
  refine mb_l_cons (ms_aload_n dX8_kept_53 rfl rfl) ?_
  refine mb_l_cons (ms_getf (ci := 8) (kf := 17) hX (C := RX8) (T := TX8) (N := 26) rfl (by decide) mu_X8 (Or.inl mw_770) dX8_kept_54 rfl) ?_
  refine mb_l_cons (ms_bipush dX8_kept_57 rfl rfl) ?_
  refine mb_l_cons (ms_iload dX8_kept_59 rfl) ?_
  refine mb_l_cons (ms_imul dX8_kept_61 rfl) ?_
  refine mb_l_cons (ms_iload_n dX8_kept_62 rfl rfl) ?_
  refine mb_l_cons (ms_iadd dX8_kept_63 rfl) ?_
  refine mb_l_cons (ms_iald hX dX8_kept_64 rfl) ?_
  refine mb_l_cons (ms_iret dX8_kept_65 rfl) ?_
  exact mb_l_nil
theorem mr_X8_countOf (hX : mb_Fx l D cT s0 args0) : ∀ pc i, mb_look mc_X8_countOf pc = some i → mb_Snd l D cT s0 mb_mt RX8 "countOf" cX8_countOf 4 (some .int) [] pc i := by
  unfold mc_X8_countOf
  refine mb_l_cons (ms_iload_n dX8_countOf_0 rfl rfl) ?_
  refine mb_l_cons (ms_if_eq dX8_countOf_1 rfl rfl) ?_
  refine mb_l_cons (ms_iload_n dX8_countOf_4 rfl rfl) ?_
  refine mb_l_cons (ms_iconst dX8_countOf_5 rfl rfl) ?_
  refine mb_l_cons (ms_icmp_eq dX8_countOf_6 rfl rfl) ?_
  refine mb_l_cons (ms_iload_n dX8_countOf_9 rfl rfl) ?_
  refine mb_l_cons (ms_iconst dX8_countOf_10 rfl rfl) ?_
  refine mb_l_cons (ms_icmp_le dX8_countOf_11 rfl rfl) ?_
  refine mb_l_cons (ms_iload_n dX8_countOf_14 rfl rfl) ?_
  refine mb_l_cons (ms_if_ne dX8_countOf_15 rfl rfl) ?_
  refine mb_l_cons (ms_aload_n dX8_countOf_18 rfl rfl) ?_
  refine mb_l_cons (ms_getf (ci := 8) (kf := 1) hX (C := RX8) (T := TX8) (N := 26) rfl (by decide) mu_X8 (Or.inl mw_754) dX8_countOf_19 rfl) ?_
  refine mb_l_cons (ms_goto dX8_countOf_22 rfl) ?_
  refine mb_l_cons (ms_iload_n dX8_countOf_25 rfl rfl) ?_
  refine mb_l_cons (ms_iconst dX8_countOf_26 rfl rfl) ?_
  refine mb_l_cons (ms_icmp_ne dX8_countOf_27 rfl rfl) ?_
  refine mb_l_cons (ms_aload_n dX8_countOf_30 rfl rfl) ?_
  refine mb_l_cons (ms_getf (ci := 8) (kf := 9) hX (C := RX8) (T := TX8) (N := 26) rfl (by decide) mu_X8 (Or.inl mw_762) dX8_countOf_31 rfl) ?_
  refine mb_l_cons (ms_goto dX8_countOf_34 rfl) ?_
  refine mb_l_cons (ms_iload_n dX8_countOf_37 rfl rfl) ?_
  refine mb_l_cons (ms_iconst dX8_countOf_38 rfl rfl) ?_
  refine mb_l_cons (ms_icmp_ne dX8_countOf_39 rfl rfl) ?_
  refine mb_l_cons (ms_aload_n dX8_countOf_42 rfl rfl) ?_
  refine mb_l_cons (ms_getf (ci := 8) (kf := 20) hX (C := RX8) (T := TX8) (N := 26) rfl (by decide) mu_X8 (Or.inl mw_773) dX8_countOf_43 rfl) ?_
  refine mb_l_cons (ms_goto dX8_countOf_46 rfl) ?_
  refine mb_l_cons (ms_aload_n dX8_countOf_49 rfl rfl) ?_
  refine mb_l_cons (ms_iconst dX8_countOf_50 rfl rfl) ?_
  refine mb_l_cons (ms_iconst dX8_countOf_51 rfl rfl) ?_
  refine mb_l_cons (ms_callv (ci := 8) hX (y := 117) (y0 := yX8_unsettled) (bytes := cX8_unsettled) rfl (C := RX8) (T := TX8) (N := 26) rfl mq_X8_153_X8_unsettled mw_962 mw_964 mw_37 dX8_countOf_52 (fun _ _ _ h => nomatch h) rfl) ?_
  refine mb_l_cons (ms_iret dX8_countOf_55 rfl) ?_
  refine mb_l_cons (ms_iconst dX8_countOf_56 rfl rfl) ?_
  refine mb_l_cons (ms_istore_n dX8_countOf_57 rfl rfl) ?_
  refine mb_l_cons (ms_iconst dX8_countOf_58 rfl rfl) ?_
  refine mb_l_cons (ms_istore_n dX8_countOf_59 rfl rfl) ?_
  refine mb_l_cons (ms_iload_n dX8_countOf_60 rfl rfl) ?_
  refine mb_l_cons (ms_bipush dX8_countOf_61 rfl rfl) ?_
  refine mb_l_cons (ms_icmp_ge dX8_countOf_63 rfl rfl) ?_
  refine mb_l_cons (ms_iload_n dX8_countOf_66 rfl rfl) ?_
  refine mb_l_cons (ms_iload_n dX8_countOf_67 rfl rfl) ?_
  refine mb_l_cons (ms_iconst dX8_countOf_68 rfl rfl) ?_
  refine mb_l_cons (ms_icmp_ne dX8_countOf_69 rfl rfl) ?_
  refine mb_l_cons (ms_iload_n dX8_countOf_72 rfl rfl) ?_
  refine mb_l_cons (ms_aload_n dX8_countOf_73 rfl rfl) ?_
  refine mb_l_cons (ms_getf (ci := 8) (kf := 1) hX (C := RX8) (T := TX8) (N := 26) rfl (by decide) mu_X8 (Or.inl mw_754) dX8_countOf_74 rfl) ?_
  refine mb_l_cons (ms_icmp_ge dX8_countOf_77 rfl rfl) ?_
  refine mb_l_cons (ms_aload_n dX8_countOf_80 rfl rfl) ?_
  refine mb_l_cons (ms_getf (ci := 8) (kf := 2) hX (C := RX8) (T := TX8) (N := 26) rfl (by decide) mu_X8 (Or.inl mw_755) dX8_countOf_81 rfl) ?_
  refine mb_l_cons (ms_iload_n dX8_countOf_84 rfl rfl) ?_
  refine mb_l_cons (ms_iald hX dX8_countOf_85 rfl) ?_
  refine mb_l_cons (ms_goto dX8_countOf_86 rfl) ?_
  refine mb_l_cons (ms_iconst dX8_countOf_89 rfl rfl) ?_
  refine mb_l_cons (ms_goto dX8_countOf_90 rfl) ?_
  refine mb_l_cons (ms_iload_n dX8_countOf_93 rfl rfl) ?_
  refine mb_l_cons (ms_aload_n dX8_countOf_94 rfl rfl) ?_
  refine mb_l_cons (ms_getf (ci := 8) (kf := 9) hX (C := RX8) (T := TX8) (N := 26) rfl (by decide) mu_X8 (Or.inl mw_762) dX8_countOf_95 rfl) ?_
  refine mb_l_cons (ms_icmp_lt dX8_countOf_98 rfl rfl) ?_
  refine mb_l_cons (ms_iconst dX8_countOf_101 rfl rfl) ?_
  refine mb_l_cons (ms_goto dX8_countOf_102 rfl) ?_
  refine mb_l_cons (ms_iload_n dX8_countOf_105 rfl rfl) ?_
  refine mb_l_cons (ms_iconst dX8_countOf_106 rfl rfl) ?_
  refine mb_l_cons (ms_icmp_ne dX8_countOf_107 rfl rfl) ?_
  refine mb_l_cons (ms_aload_n dX8_countOf_110 rfl rfl) ?_
  refine mb_l_cons (ms_getf (ci := 8) (kf := 10) hX (C := RX8) (T := TX8) (N := 26) rfl (by decide) mu_X8 (Or.inl mw_763) dX8_countOf_111 rfl) ?_
  refine mb_l_cons (ms_iload_n dX8_countOf_114 rfl rfl) ?_
  refine mb_l_cons (ms_iald hX dX8_countOf_115 rfl) ?_
  refine mb_l_cons (ms_goto dX8_countOf_116 rfl) ?_
  refine mb_l_cons (ms_aload_n dX8_countOf_119 rfl rfl) ?_
  refine mb_l_cons (ms_iload_n dX8_countOf_120 rfl rfl) ?_
  refine mb_l_cons (ms_callv (ci := 8) hX (y := 128) (y0 := yX8_needed) (bytes := cX8_needed) rfl (C := RX8) (T := TX8) (N := 26) rfl mq_X8_177_X8_needed mw_1006 mw_1008 mw_44 dX8_countOf_121 (fun _ _ _ h => nomatch h) rfl) ?_
  refine mb_l_cons (ms_iadd dX8_countOf_124 rfl) ?_
  refine mb_l_cons (ms_istore_n dX8_countOf_125 rfl rfl) ?_
  refine mb_l_cons (ms_iinc dX8_countOf_126 rfl rfl) ?_
  refine mb_l_cons (ms_goto dX8_countOf_129 rfl) ?_
  refine mb_l_cons (ms_iload_n dX8_countOf_132 rfl rfl) ?_
  refine mb_l_cons (ms_iret dX8_countOf_133 rfl) ?_
  exact mb_l_nil
theorem mr_X8_count (hX : mb_Fx l D cT s0 args0) : ∀ pc i, mb_look mc_X8_count pc = some i → mb_Snd l D cT s0 mb_mt RX8 "count" cX8_count 2 (some .int) [] pc i := by
  unfold mc_X8_count
  refine mb_l_cons (ms_aload_n dX8_count_0 rfl rfl) ?_
  refine mb_l_cons (ms_iload_n dX8_count_1 rfl rfl) ?_
  refine mb_l_cons (ms_iconst dX8_count_2 rfl rfl) ?_
  refine mb_l_cons (ms_bipush dX8_count_3 rfl rfl) ?_
  refine mb_l_cons (ms_calls hX (y := 87) (y0 := yX8_isIn) (bytes := cX8_isIn) rfl mq_X8_81_X8_isIn mw_853 mw_854 dX8_count_5 rfl) ?_
  refine mb_l_cons (ms_if_eq dX8_count_8 rfl rfl) ?_
  refine mb_l_cons (ms_iconst dX8_count_11 rfl rfl) ?_
  refine mb_l_cons (ms_goto dX8_count_12 rfl) ?_
  refine mb_l_cons (ms_iconst dX8_count_15 rfl rfl) ?_
  refine mb_l_cons (ms_callv (ci := 8) hX (y := 86) (y0 := yX8_holds) (bytes := cX8_holds) rfl (C := RX8) (T := TX8) (N := 26) rfl mq_X8_112_X8_holds mw_841 mw_843 mw_21 dX8_count_16 (fun _ _ _ h => nomatch h) rfl) ?_
  refine mb_l_cons (ms_if_eq dX8_count_19 rfl rfl) ?_
  refine mb_l_cons (ms_aload_n dX8_count_22 rfl rfl) ?_
  refine mb_l_cons (ms_iload_n dX8_count_23 rfl rfl) ?_
  refine mb_l_cons (ms_callv (ci := 8) hX (y := 137) (y0 := yX8_countOf) (bytes := cX8_countOf) rfl (C := RX8) (T := TX8) (N := 26) rfl mq_X8_192_X8_countOf mw_1042 mw_1044 mw_49 dX8_count_24 (fun _ _ _ h => nomatch h) rfl) ?_
  refine mb_l_cons (ms_goto dX8_count_27 rfl) ?_
  refine mb_l_cons (ms_iconst dX8_count_30 rfl rfl) ?_
  refine mb_l_cons (ms_iret dX8_count_31 rfl) ?_
  exact mb_l_nil
end MBX
