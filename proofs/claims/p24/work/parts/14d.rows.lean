/-! every row of every method is sound -/
section MBX
variable {l : Launch} {D : va_G} {cT : Nat → ClassId} {s0 : State} {args0 : Array Value}
theorem mh_L_ask : ∀ E t i, ([(2, 16, 7), (1, 21, 7), (0, 26, 7)] : List (Nat × Nat × Nat)).lookup E = some (t, i) → mb_Hd RL cL_ask [(0, 13, 14, 48), (0, 13, 19, 51), (0, 13, 24, 54)] 10 E t i := by
  intro E t i h
  by_cases h2 : E = 2
  · subst h2
    obtain ⟨rfl, rfl⟩ : 16 = t ∧ 7 = i := by simpa [List.lookup] using h
    exact ⟨[], ⟨0, 13, 14, 48⟩, [⟨0, 13, 19, 51⟩, ⟨0, 13, 24, 54⟩], rfl, (fun _ h => absurd h List.not_mem_nil), rfl, by decide, mw_453, mw_208, Or.inr ⟨dL_ask_14, rfl⟩⟩
  by_cases h1 : E = 1
  · subst h1
    obtain ⟨rfl, rfl⟩ : 21 = t ∧ 7 = i := by simpa [List.lookup] using h
    exact ⟨[⟨0, 13, 14, 48⟩], ⟨0, 13, 19, 51⟩, [⟨0, 13, 24, 54⟩], rfl, (List.forall_mem_cons.mpr ⟨⟨by decide, 2, by decide +kernel, mw_453⟩, (fun _ h => absurd h List.not_mem_nil)⟩), rfl, by decide, mw_454, mw_227, Or.inr ⟨dL_ask_19, rfl⟩⟩
  by_cases h0 : E = 0
  · subst h0
    obtain ⟨rfl, rfl⟩ : 26 = t ∧ 7 = i := by simpa [List.lookup] using h
    exact ⟨[⟨0, 13, 14, 48⟩, ⟨0, 13, 19, 51⟩], ⟨0, 13, 24, 54⟩, [], rfl, (List.forall_mem_cons.mpr ⟨⟨by decide, 2, by decide +kernel, mw_453⟩, (List.forall_mem_cons.mpr ⟨⟨by decide, 1, by decide +kernel, mw_454⟩, (fun _ h => absurd h List.not_mem_nil)⟩)⟩), rfl, by decide, mw_455, mw_79, Or.inr ⟨dL_ask_24, rfl⟩⟩
  · exfalso
    have hb : (E == 2) = false ∧ (E == 1) = false ∧ (E == 0) = false := ⟨beq_false_of_ne h2, beq_false_of_ne h1, beq_false_of_ne h0⟩
    simp [List.lookup, hb] at h
theorem mr_L_call (hX : mb_Fx l D cT s0 args0) : ∀ pc i, mb_look mc_L_call pc = some i → mb_Snd l D cT s0 mb_mt RL "call" cL_call 7 (some .int) [] pc i := by
  unfold mc_L_call
  refine mb_l_cons (ms_iload_n dL_call_0 rfl rfl) ?_
  refine mb_l_cons (ms_tsw dL_call_1 rfl rfl rfl) ?_
  refine mb_l_cons (ms_aload_n dL_call_48 rfl rfl) ?_
  refine mb_l_cons (ms_iload_n dL_call_49 rfl rfl) ?_
  refine mb_l_cons (ms_iload_n dL_call_50 rfl rfl) ?_
  refine mb_l_cons (ms_callvp (ci := 7) hX (y := 42) (y0 := yX7_bone) (bytes := cX7_bone) rfl (C := RX7) (T := TX7) (N := 7) rfl mq_L_7_X7_bone mw_459 mw_460 mw_461 dL_call_51 rfl rfl) ?_
  refine mb_l_cons (ms_iret dL_call_54 rfl) ?_
  refine mb_l_cons (ms_aload_n dL_call_55 rfl rfl) ?_
  refine mb_l_cons (ms_iload_n dL_call_56 rfl rfl) ?_
  refine mb_l_cons (ms_iload_n dL_call_57 rfl rfl) ?_
  refine mb_l_cons (ms_iload dL_call_58 rfl) ?_
  refine mb_l_cons (ms_iload dL_call_60 rfl) ?_
  refine mb_l_cons (ms_iload dL_call_62 rfl) ?_
  refine mb_l_cons (ms_callvp (ci := 7) hX (y := 43) (y0 := yX7_key) (bytes := cX7_key) rfl (C := RX7) (T := TX7) (N := 7) rfl mq_L_13_X7_key mw_492 mw_493 mw_494 dL_call_64 rfl rfl) ?_
  refine mb_l_cons (ms_iret dL_call_67 rfl) ?_
  refine mb_l_cons (ms_aload_n dL_call_68 rfl rfl) ?_
  refine mb_l_cons (ms_iload_n dL_call_69 rfl rfl) ?_
  refine mb_l_cons (ms_iload_n dL_call_70 rfl rfl) ?_
  refine mb_l_cons (ms_iload dL_call_71 rfl) ?_
  refine mb_l_cons (ms_callvp (ci := 7) hX (y := 44) (y0 := yX7_unkey) (bytes := cX7_unkey) rfl (C := RX7) (T := TX7) (N := 7) rfl mq_L_17_X7_unkey mw_521 mw_522 mw_523 dL_call_73 rfl rfl) ?_
  refine mb_l_cons (ms_if_eq dL_call_76 rfl rfl) ?_
  refine mb_l_cons (ms_iconst dL_call_79 rfl rfl) ?_
  refine mb_l_cons (ms_goto dL_call_80 rfl) ?_
  refine mb_l_cons (ms_iconst dL_call_83 rfl rfl) ?_
  refine mb_l_cons (ms_iret dL_call_84 rfl) ?_
  refine mb_l_cons (ms_aload_n dL_call_85 rfl rfl) ?_
  refine mb_l_cons (ms_iload_n dL_call_86 rfl rfl) ?_
  refine mb_l_cons (ms_callvp (ci := 7) hX (y := 45) (y0 := yX7_publish) (bytes := cX7_publish) rfl (C := RX7) (T := TX7) (N := 7) rfl mq_L_21_X7_publish mw_529 mw_530 mw_531 dL_call_87 rfl rfl) ?_
  refine mb_l_cons (ms_iret dL_call_90 rfl) ?_
  refine mb_l_cons (ms_aload_n dL_call_91 rfl rfl) ?_
  refine mb_l_cons (ms_iload_n dL_call_92 rfl rfl) ?_
  refine mb_l_cons (ms_iload_n dL_call_93 rfl rfl) ?_
  refine mb_l_cons (ms_iload dL_call_94 rfl) ?_
  refine mb_l_cons (ms_iload dL_call_96 rfl) ?_
  refine mb_l_cons (ms_iload dL_call_98 rfl) ?_
  refine mb_l_cons (ms_callvp (ci := 7) hX (y := 50) (y0 := yX7_cast) (bytes := cX7_cast) rfl (C := RX7) (T := TX7) (N := 7) rfl mq_L_25_X7_cast mw_555 mw_556 mw_557 dL_call_100 rfl rfl) ?_
  refine mb_l_cons (ms_iret dL_call_103 rfl) ?_
  refine mb_l_cons (ms_aload_n dL_call_104 rfl rfl) ?_
  refine mb_l_cons (ms_iload_n dL_call_105 rfl rfl) ?_
  refine mb_l_cons (ms_iload_n dL_call_106 rfl rfl) ?_
  refine mb_l_cons (ms_iload dL_call_107 rfl) ?_
  refine mb_l_cons (ms_callvp (ci := 7) hX (y := 51) (y0 := yX7_cut) (bytes := cX7_cut) rfl (C := RX7) (T := TX7) (N := 7) rfl mq_L_28_X7_cut mw_584 mw_585 mw_586 dL_call_109 rfl rfl) ?_
  refine mb_l_cons (ms_iret dL_call_112 rfl) ?_
  refine mb_l_cons (ms_aload_n dL_call_113 rfl rfl) ?_
  refine mb_l_cons (ms_iload_n dL_call_114 rfl rfl) ?_
  refine mb_l_cons (ms_iload_n dL_call_115 rfl rfl) ?_
  refine mb_l_cons (ms_callvp (ci := 7) hX (y := 52) (y0 := yX7_note) (bytes := cX7_note) rfl (C := RX7) (T := TX7) (N := 7) rfl mq_L_32_X7_note mw_603 mw_604 mw_605 dL_call_116 rfl rfl) ?_
  refine mb_l_cons (ms_iret dL_call_119 rfl) ?_
  refine mb_l_cons (ms_aload_n dL_call_120 rfl rfl) ?_
  refine mb_l_cons (ms_iload_n dL_call_121 rfl rfl) ?_
  refine mb_l_cons (ms_callvp (ci := 7) hX (y := 53) (y0 := yX7_settle) (bytes := cX7_settle) rfl (C := RX7) (T := TX7) (N := 7) rfl mq_L_35_X7_settle mw_629 mw_630 mw_631 dL_call_122 rfl rfl) ?_
  refine mb_l_cons (ms_iret dL_call_125 rfl) ?_
  refine mb_l_cons (ms_aload_n dL_call_126 rfl rfl) ?_
  refine mb_l_cons (ms_iload_n dL_call_127 rfl rfl) ?_
  refine mb_l_cons (ms_iload_n dL_call_128 rfl rfl) ?_
  refine mb_l_cons (ms_callvp (ci := 7) hX (y := 56) (y0 := yX7_renderOne) (bytes := cX7_renderOne) rfl (C := RX7) (T := TX7) (N := 7) rfl mq_L_38_X7_renderOne mw_639 mw_640 mw_641 dL_call_129 rfl rfl) ?_
  refine mb_l_cons (ms_if_eq dL_call_132 rfl rfl) ?_
  refine mb_l_cons (ms_iconst dL_call_135 rfl rfl) ?_
  refine mb_l_cons (ms_goto dL_call_136 rfl) ?_
  refine mb_l_cons (ms_iconst dL_call_139 rfl rfl) ?_
  refine mb_l_cons (ms_iret dL_call_140 rfl) ?_
  exact mb_l_nil
theorem mr_L_ask (hX : mb_Fx l D cT s0 args0) : ∀ pc i, mb_look mc_L_ask pc = some i → mb_Snd l D cT s0 mb_mt RL "ask" cL_ask 8 (some .int) [(0, 13, 14, 48), (0, 13, 19, 51), (0, 13, 24, 54)] pc i := by
  unfold mc_L_ask
  refine mb_l_cons (ms_aload_n dL_ask_0 rfl rfl) ?_
  refine mb_l_cons (ms_iload_n dL_ask_1 rfl rfl) ?_
  refine mb_l_cons (ms_iload_n dL_ask_2 rfl rfl) ?_
  refine mb_l_cons (ms_iload_n dL_ask_3 rfl rfl) ?_
  refine mb_l_cons (ms_iload dL_ask_4 rfl) ?_
  refine mb_l_cons (ms_iload dL_ask_6 rfl) ?_
  refine mb_l_cons (ms_iload dL_ask_8 rfl) ?_
  refine mb_l_cons (ms_callsx hX (y := 85) (y0 := yL_call) (bytes := cL_call) rfl mq_L_42_L_call mw_456 mw_457 dL_ask_10 mh_L_ask rfl) ?_
  refine mb_l_cons (ms_iret dL_ask_13 rfl) ?_
  refine mb_l_cons (ms_astore dL_ask_14 rfl) ?_
  refine mb_l_cons (ms_ldc hX mw_643 dL_ask_16 rfl) ?_
  refine mb_l_cons (ms_iret dL_ask_18 rfl) ?_
  refine mb_l_cons (ms_astore dL_ask_19 rfl) ?_
  refine mb_l_cons (ms_ldc hX mw_644 dL_ask_21 rfl) ?_
  refine mb_l_cons (ms_iret dL_ask_23 rfl) ?_
  refine mb_l_cons (ms_astore dL_ask_24 rfl) ?_
  refine mb_l_cons (ms_ldc hX mw_645 dL_ask_26 rfl) ?_
  refine mb_l_cons (ms_iret dL_ask_28 rfl) ?_
  exact mb_l_nil
theorem mr_L_draw (hX : mb_Fx l D cT s0 args0) : ∀ pc i, mb_look mc_L_draw pc = some i → mb_Snd l D cT s0 mb_mt RL "draw" cL_draw 2 (some .int) [] pc i := by
  unfold mc_L_draw
  refine mb_l_cons (ms_iload_n dL_draw_0 rfl rfl) ?_
  refine mb_l_cons (ms_aload_n dL_draw_1 rfl rfl) ?_
  refine mb_l_cons (ms_alen hX dL_draw_2 rfl) ?_
  refine mb_l_cons (ms_icmp_ge dL_draw_3 rfl rfl) ?_
  refine mb_l_cons (ms_aload_n dL_draw_6 rfl rfl) ?_
  refine mb_l_cons (ms_iload_n dL_draw_7 rfl rfl) ?_
  refine mb_l_cons (ms_iald hX dL_draw_8 rfl) ?_
  refine mb_l_cons (ms_goto dL_draw_9 rfl) ?_
  refine mb_l_cons (ms_ldc hX mw_649 dL_draw_12 rfl) ?_
  refine mb_l_cons (ms_iload_n dL_draw_14 rfl rfl) ?_
  refine mb_l_cons (ms_imul dL_draw_15 rfl) ?_
  refine mb_l_cons (ms_iload_n dL_draw_16 rfl rfl) ?_
  refine mb_l_cons (ms_imul dL_draw_17 rfl) ?_
  refine mb_l_cons (ms_ldc hX mw_650 dL_draw_18 rfl) ?_
  refine mb_l_cons (ms_iload_n dL_draw_20 rfl rfl) ?_
  refine mb_l_cons (ms_imul dL_draw_21 rfl) ?_
  refine mb_l_cons (ms_iadd dL_draw_22 rfl) ?_
  refine mb_l_cons (ms_sipush dL_draw_23 rfl rfl) ?_
  refine mb_l_cons (ms_iadd dL_draw_26 rfl) ?_
  refine mb_l_cons (ms_iret dL_draw_27 rfl) ?_
  exact mb_l_nil
theorem mr_L_poses (hX : mb_Fx l D cT s0 args0) : ∀ pc i, mb_look mc_L_poses pc = some i → mb_Snd l D cT s0 mb_mt RL "poses" cL_poses 7 (some .int) [] pc i := by
  unfold mc_L_poses
  refine mb_l_cons (ms_bipush dL_poses_0 rfl rfl) ?_
  refine mb_l_cons (ms_istore dL_poses_2 rfl) ?_
  refine mb_l_cons (ms_iconst dL_poses_4 rfl rfl) ?_
  refine mb_l_cons (ms_istore dL_poses_5 rfl) ?_
  refine mb_l_cons (ms_iload dL_poses_7 rfl) ?_
  refine mb_l_cons (ms_iload_n dL_poses_9 rfl rfl) ?_
  refine mb_l_cons (ms_icmp_ge dL_poses_10 rfl rfl) ?_
  refine mb_l_cons (ms_iconst dL_poses_13 rfl rfl) ?_
  refine mb_l_cons (ms_istore dL_poses_14 rfl) ?_
  refine mb_l_cons (ms_iload dL_poses_16 rfl) ?_
  refine mb_l_cons (ms_bipush dL_poses_18 rfl rfl) ?_
  refine mb_l_cons (ms_icmp_ge dL_poses_20 rfl rfl) ?_
  refine mb_l_cons (ms_bipush dL_poses_23 rfl rfl) ?_
  refine mb_l_cons (ms_iload dL_poses_25 rfl) ?_
  refine mb_l_cons (ms_imul dL_poses_27 rfl) ?_
  refine mb_l_cons (ms_aload_n dL_poses_28 rfl rfl) ?_
  refine mb_l_cons (ms_iload_n dL_poses_29 rfl rfl) ?_
  refine mb_l_cons (ms_iload_n dL_poses_30 rfl rfl) ?_
  refine mb_l_cons (ms_iload dL_poses_31 rfl) ?_
  refine mb_l_cons (ms_iload dL_poses_33 rfl) ?_
  refine mb_l_cons (ms_callv (ci := 7) hX (y := 46) (y0 := yX7_pose) (bytes := cX7_pose) rfl (C := RX7) (T := TX7) (N := 7) rfl mq_L_59_X7_pose mw_186 mw_187 mw_188 dL_poses_35 (fun _ _ _ h => nomatch h) rfl) ?_
  refine mb_l_cons (ms_iadd dL_poses_38 rfl) ?_
  refine mb_l_cons (ms_istore dL_poses_39 rfl) ?_
  refine mb_l_cons (ms_iinc dL_poses_41 rfl rfl) ?_
  refine mb_l_cons (ms_goto dL_poses_44 rfl) ?_
  refine mb_l_cons (ms_iinc dL_poses_47 rfl rfl) ?_
  refine mb_l_cons (ms_goto dL_poses_50 rfl) ?_
  refine mb_l_cons (ms_iload dL_poses_53 rfl) ?_
  refine mb_l_cons (ms_iret dL_poses_55 rfl) ?_
  exact mb_l_nil
theorem mr_L_areFrames (hX : mb_Fx l D cT s0 args0) : ∀ pc i, mb_look mc_L_areFrames pc = some i → mb_Snd l D cT s0 mb_mt RL "areFrames" cL_areFrames 13 (some .boolean) [] pc i := by
  unfold mc_L_areFrames
  refine mb_l_cons (ms_iconst dL_areFrames_0 rfl rfl) ?_
  refine mb_l_cons (ms_istore dL_areFrames_1 rfl) ?_
  refine mb_l_cons (ms_iconst dL_areFrames_3 rfl rfl) ?_
  refine mb_l_cons (ms_istore dL_areFrames_4 rfl) ?_
  refine mb_l_cons (ms_iconst dL_areFrames_6 rfl rfl) ?_
  refine mb_l_cons (ms_istore dL_areFrames_7 rfl) ?_
  refine mb_l_cons (ms_iconst dL_areFrames_9 rfl rfl) ?_
  refine mb_l_cons (ms_istore dL_areFrames_10 rfl) ?_
  refine mb_l_cons (ms_iconst dL_areFrames_12 rfl rfl) ?_
  refine mb_l_cons (ms_istore dL_areFrames_13 rfl) ?_
  refine mb_l_cons (ms_iload dL_areFrames_15 rfl) ?_
  refine mb_l_cons (ms_iload_n dL_areFrames_17 rfl rfl) ?_
  refine mb_l_cons (ms_icmp_ge dL_areFrames_18 rfl rfl) ?_
  refine mb_l_cons (ms_iload dL_areFrames_21 rfl) ?_
  refine mb_l_cons (ms_if_eq dL_areFrames_23 rfl rfl) ?_
  refine mb_l_cons (ms_aload_n dL_areFrames_26 rfl rfl) ?_
  refine mb_l_cons (ms_iload_n dL_areFrames_27 rfl rfl) ?_
  refine mb_l_cons (ms_iload dL_areFrames_28 rfl) ?_
  refine mb_l_cons (ms_iconst dL_areFrames_30 rfl rfl) ?_
  refine mb_l_cons (ms_callv (ci := 7) hX (y := 59) (y0 := yX7_ofFrame) (bytes := cX7_ofFrame) rfl (C := RX7) (T := TX7) (N := 7) rfl mq_L_63_X7_ofFrame mw_408 mw_409 mw_410 dL_areFrames_31 (fun _ _ _ h => nomatch h) rfl) ?_
  refine mb_l_cons (ms_istore dL_areFrames_34 rfl) ?_
  refine mb_l_cons (ms_aload_n dL_areFrames_36 rfl rfl) ?_
  refine mb_l_cons (ms_iload_n dL_areFrames_37 rfl rfl) ?_
  refine mb_l_cons (ms_iload dL_areFrames_38 rfl) ?_
  refine mb_l_cons (ms_iconst dL_areFrames_40 rfl rfl) ?_
  refine mb_l_cons (ms_callv (ci := 7) hX (y := 59) (y0 := yX7_ofFrame) (bytes := cX7_ofFrame) rfl (C := RX7) (T := TX7) (N := 7) rfl mq_L_63_X7_ofFrame mw_408 mw_409 mw_410 dL_areFrames_41 (fun _ _ _ h => nomatch h) rfl) ?_
  refine mb_l_cons (ms_istore dL_areFrames_44 rfl) ?_
  refine mb_l_cons (ms_iload dL_areFrames_46 rfl) ?_
  refine mb_l_cons (ms_aload_n dL_areFrames_48 rfl rfl) ?_
  refine mb_l_cons (ms_iload_n dL_areFrames_49 rfl rfl) ?_
  refine mb_l_cons (ms_iload dL_areFrames_50 rfl) ?_
  refine mb_l_cons (ms_iconst dL_areFrames_52 rfl rfl) ?_
  refine mb_l_cons (ms_callv (ci := 7) hX (y := 59) (y0 := yX7_ofFrame) (bytes := cX7_ofFrame) rfl (C := RX7) (T := TX7) (N := 7) rfl mq_L_63_X7_ofFrame mw_408 mw_409 mw_410 dL_areFrames_53 (fun _ _ _ h => nomatch h) rfl) ?_
  refine mb_l_cons (ms_iadd dL_areFrames_56 rfl) ?_
  refine mb_l_cons (ms_istore dL_areFrames_57 rfl) ?_
  refine mb_l_cons (ms_iload dL_areFrames_59 rfl) ?_
  refine mb_l_cons (ms_aload_n dL_areFrames_61 rfl rfl) ?_
  refine mb_l_cons (ms_iload_n dL_areFrames_62 rfl rfl) ?_
  refine mb_l_cons (ms_iload dL_areFrames_63 rfl) ?_
  refine mb_l_cons (ms_iconst dL_areFrames_65 rfl rfl) ?_
  refine mb_l_cons (ms_callv (ci := 7) hX (y := 59) (y0 := yX7_ofFrame) (bytes := cX7_ofFrame) rfl (C := RX7) (T := TX7) (N := 7) rfl mq_L_63_X7_ofFrame mw_408 mw_409 mw_410 dL_areFrames_66 (fun _ _ _ h => nomatch h) rfl) ?_
  refine mb_l_cons (ms_iadd dL_areFrames_69 rfl) ?_
  refine mb_l_cons (ms_istore dL_areFrames_70 rfl) ?_
  refine mb_l_cons (ms_iload dL_areFrames_72 rfl) ?_
  refine mb_l_cons (ms_iload dL_areFrames_74 rfl) ?_
  refine mb_l_cons (ms_icmp_le dL_areFrames_76 rfl rfl) ?_
  refine mb_l_cons (ms_iload dL_areFrames_79 rfl) ?_
  refine mb_l_cons (ms_bipush dL_areFrames_81 rfl rfl) ?_
  refine mb_l_cons (ms_icmp_ge dL_areFrames_83 rfl rfl) ?_
  refine mb_l_cons (ms_iload dL_areFrames_86 rfl) ?_
  refine mb_l_cons (ms_if_le dL_areFrames_88 rfl rfl) ?_
  refine mb_l_cons (ms_iconst dL_areFrames_91 rfl rfl) ?_
  refine mb_l_cons (ms_goto dL_areFrames_92 rfl) ?_
  refine mb_l_cons (ms_iconst dL_areFrames_95 rfl rfl) ?_
  refine mb_l_cons (ms_aload_n dL_areFrames_96 rfl rfl) ?_
  refine mb_l_cons (ms_iload_n dL_areFrames_97 rfl rfl) ?_
  refine mb_l_cons (ms_iload dL_areFrames_98 rfl) ?_
  refine mb_l_cons (ms_iconst dL_areFrames_100 rfl rfl) ?_
  refine mb_l_cons (ms_callv (ci := 7) hX (y := 59) (y0 := yX7_ofFrame) (bytes := cX7_ofFrame) rfl (C := RX7) (T := TX7) (N := 7) rfl mq_L_63_X7_ofFrame mw_408 mw_409 mw_410 dL_areFrames_101 (fun _ _ _ h => nomatch h) rfl) ?_
  refine mb_l_cons (ms_iconst dL_areFrames_104 rfl rfl) ?_
  refine mb_l_cons (ms_icmp_ne dL_areFrames_105 rfl rfl) ?_
  refine mb_l_cons (ms_iconst dL_areFrames_108 rfl rfl) ?_
  refine mb_l_cons (ms_goto dL_areFrames_109 rfl) ?_
  refine mb_l_cons (ms_iconst dL_areFrames_112 rfl rfl) ?_
  refine mb_l_cons (ms_icmp_ne dL_areFrames_113 rfl rfl) ?_
  refine mb_l_cons (ms_iload dL_areFrames_116 rfl) ?_
  refine mb_l_cons (ms_if_gt dL_areFrames_118 rfl rfl) ?_
  refine mb_l_cons (ms_aload_n dL_areFrames_121 rfl rfl) ?_
  refine mb_l_cons (ms_iload_n dL_areFrames_122 rfl rfl) ?_
  refine mb_l_cons (ms_iload dL_areFrames_123 rfl) ?_
  refine mb_l_cons (ms_iconst dL_areFrames_125 rfl rfl) ?_
  refine mb_l_cons (ms_callv (ci := 7) hX (y := 59) (y0 := yX7_ofFrame) (bytes := cX7_ofFrame) rfl (C := RX7) (T := TX7) (N := 7) rfl mq_L_63_X7_ofFrame mw_408 mw_409 mw_410 dL_areFrames_126 (fun _ _ _ h => nomatch h) rfl) ?_
  refine mb_l_cons (ms_iconst dL_areFrames_129 rfl rfl) ?_
  refine mb_l_cons (ms_icmp_ne dL_areFrames_130 rfl rfl) ?_
  refine mb_l_cons (ms_aload_n dL_areFrames_133 rfl rfl) ?_
  refine mb_l_cons (ms_iload_n dL_areFrames_134 rfl rfl) ?_
  refine mb_l_cons (ms_iload dL_areFrames_135 rfl) ?_
  refine mb_l_cons (ms_iconst dL_areFrames_137 rfl rfl) ?_
  refine mb_l_cons (ms_callv (ci := 7) hX (y := 59) (y0 := yX7_ofFrame) (bytes := cX7_ofFrame) rfl (C := RX7) (T := TX7) (N := 7) rfl mq_L_63_X7_ofFrame mw_408 mw_409 mw_410 dL_areFrames_138 (fun _ _ _ h => nomatch h) rfl) ?_
  refine mb_l_cons (ms_bipush dL_areFrames_141 rfl rfl) ?_
  refine mb_l_cons (ms_icmp_gt dL_areFrames_143 rfl rfl) ?_
  refine mb_l_cons (ms_iconst dL_areFrames_146 rfl rfl) ?_
  refine mb_l_cons (ms_goto dL_areFrames_147 rfl) ?_
  refine mb_l_cons (ms_iconst dL_areFrames_150 rfl rfl) ?_
  refine mb_l_cons (ms_istore dL_areFrames_151 rfl) ?_
  refine mb_l_cons (ms_iconst dL_areFrames_153 rfl rfl) ?_
  refine mb_l_cons (ms_istore dL_areFrames_154 rfl) ?_
  refine mb_l_cons (ms_iload dL_areFrames_156 rfl) ?_
  refine mb_l_cons (ms_iconst dL_areFrames_158 rfl rfl) ?_
  refine mb_l_cons (ms_icmp_ge dL_areFrames_159 rfl rfl) ?_
  refine mb_l_cons (ms_iload dL_areFrames_162 rfl) ?_
  refine mb_l_cons (ms_if_eq dL_areFrames_164 rfl rfl) ?_
  refine mb_l_cons (ms_aload_n dL_areFrames_167 rfl rfl) ?_
  refine mb_l_cons (ms_iload_n dL_areFrames_168 rfl rfl) ?_
  refine mb_l_cons (ms_iload dL_areFrames_169 rfl) ?_
  refine mb_l_cons (ms_iload dL_areFrames_171 rfl) ?_
  refine mb_l_cons (ms_callv (ci := 7) hX (y := 60) (y0 := yX7_kept) (bytes := cX7_kept) rfl (C := RX7) (T := TX7) (N := 7) rfl mq_L_66_X7_kept mw_657 mw_658 mw_659 dL_areFrames_173 (fun _ _ _ h => nomatch h) rfl) ?_
  refine mb_l_cons (ms_istore dL_areFrames_176 rfl) ?_
  refine mb_l_cons (ms_iload dL_areFrames_178 rfl) ?_
  refine mb_l_cons (ms_iconst dL_areFrames_180 rfl rfl) ?_
  refine mb_l_cons (ms_icmp_lt dL_areFrames_181 rfl rfl) ?_
  refine mb_l_cons (ms_iload dL_areFrames_184 rfl) ?_
  refine mb_l_cons (ms_aload_n dL_areFrames_186 rfl rfl) ?_
  refine mb_l_cons (ms_iload dL_areFrames_187 rfl) ?_
  refine mb_l_cons (ms_iconst dL_areFrames_189 rfl rfl) ?_
  refine mb_l_cons (ms_callv (ci := 7) hX (y := 48) (y0 := yX7_ofAsset) (bytes := cX7_ofAsset) rfl (C := RX7) (T := TX7) (N := 7) rfl mq_L_69_X7_ofAsset mw_662 mw_663 mw_664 dL_areFrames_190 (fun _ _ _ h => nomatch h) rfl) ?_
  refine mb_l_cons (ms_icmp_ge dL_areFrames_193 rfl rfl) ?_
  refine mb_l_cons (ms_iload dL_areFrames_196 rfl) ?_
  refine mb_l_cons (ms_if_gt dL_areFrames_198 rfl rfl) ?_
  refine mb_l_cons (ms_iload dL_areFrames_201 rfl) ?_
  refine mb_l_cons (ms_iconst dL_areFrames_203 rfl rfl) ?_
  refine mb_l_cons (ms_icmp_ne dL_areFrames_204 rfl rfl) ?_
  refine mb_l_cons (ms_iconst dL_areFrames_207 rfl rfl) ?_
  refine mb_l_cons (ms_goto dL_areFrames_208 rfl) ?_
  refine mb_l_cons (ms_iconst dL_areFrames_211 rfl rfl) ?_
  refine mb_l_cons (ms_istore dL_areFrames_212 rfl) ?_
  refine mb_l_cons (ms_iinc dL_areFrames_214 rfl rfl) ?_
  refine mb_l_cons (ms_goto dL_areFrames_217 rfl) ?_
  refine mb_l_cons (ms_iload dL_areFrames_220 rfl) ?_
  refine mb_l_cons (ms_istore dL_areFrames_222 rfl) ?_
  refine mb_l_cons (ms_iinc dL_areFrames_224 rfl rfl) ?_
  refine mb_l_cons (ms_goto dL_areFrames_227 rfl) ?_
  refine mb_l_cons (ms_iconst dL_areFrames_230 rfl rfl) ?_
  refine mb_l_cons (ms_istore dL_areFrames_231 rfl) ?_
  refine mb_l_cons (ms_iconst dL_areFrames_233 rfl rfl) ?_
  refine mb_l_cons (ms_istore dL_areFrames_234 rfl) ?_
  refine mb_l_cons (ms_iload dL_areFrames_236 rfl) ?_
  refine mb_l_cons (ms_iload_n dL_areFrames_238 rfl rfl) ?_
  refine mb_l_cons (ms_icmp_ge dL_areFrames_239 rfl rfl) ?_
  refine mb_l_cons (ms_iload dL_areFrames_242 rfl) ?_
  refine mb_l_cons (ms_if_eq dL_areFrames_244 rfl rfl) ?_
  refine mb_l_cons (ms_iload dL_areFrames_247 rfl) ?_
  refine mb_l_cons (ms_aload_n dL_areFrames_249 rfl rfl) ?_
  refine mb_l_cons (ms_iload dL_areFrames_250 rfl) ?_
  refine mb_l_cons (ms_iconst dL_areFrames_252 rfl rfl) ?_
  refine mb_l_cons (ms_callv (ci := 7) hX (y := 54) (y0 := yX7_ofNote) (bytes := cX7_ofNote) rfl (C := RX7) (T := TX7) (N := 7) rfl mq_L_72_X7_ofNote mw_670 mw_671 mw_672 dL_areFrames_253 (fun _ _ _ h => nomatch h) rfl) ?_
  refine mb_l_cons (ms_iload_n dL_areFrames_256 rfl rfl) ?_
  refine mb_l_cons (ms_icmp_ne dL_areFrames_257 rfl rfl) ?_
  refine mb_l_cons (ms_aload_n dL_areFrames_260 rfl rfl) ?_
  refine mb_l_cons (ms_iload dL_areFrames_261 rfl) ?_
  refine mb_l_cons (ms_iconst dL_areFrames_263 rfl rfl) ?_
  refine mb_l_cons (ms_callv (ci := 7) hX (y := 54) (y0 := yX7_ofNote) (bytes := cX7_ofNote) rfl (C := RX7) (T := TX7) (N := 7) rfl mq_L_72_X7_ofNote mw_670 mw_671 mw_672 dL_areFrames_264 (fun _ _ _ h => nomatch h) rfl) ?_
  refine mb_l_cons (ms_if_ne dL_areFrames_267 rfl rfl) ?_
  refine mb_l_cons (ms_iconst dL_areFrames_270 rfl rfl) ?_
  refine mb_l_cons (ms_goto dL_areFrames_271 rfl) ?_
  refine mb_l_cons (ms_iconst dL_areFrames_274 rfl rfl) ?_
  refine mb_l_cons (ms_iadd dL_areFrames_275 rfl) ?_
  refine mb_l_cons (ms_istore dL_areFrames_276 rfl) ?_
  refine mb_l_cons (ms_aload_n dL_areFrames_278 rfl rfl) ?_
  refine mb_l_cons (ms_iload dL_areFrames_279 rfl) ?_
  refine mb_l_cons (ms_iconst dL_areFrames_281 rfl rfl) ?_
  refine mb_l_cons (ms_callv (ci := 7) hX (y := 54) (y0 := yX7_ofNote) (bytes := cX7_ofNote) rfl (C := RX7) (T := TX7) (N := 7) rfl mq_L_72_X7_ofNote mw_670 mw_671 mw_672 dL_areFrames_282 (fun _ _ _ h => nomatch h) rfl) ?_
  refine mb_l_cons (ms_iload_n dL_areFrames_285 rfl rfl) ?_
  refine mb_l_cons (ms_icmp_ne dL_areFrames_286 rfl rfl) ?_
  refine mb_l_cons (ms_aload_n dL_areFrames_289 rfl rfl) ?_
  refine mb_l_cons (ms_iload dL_areFrames_290 rfl) ?_
  refine mb_l_cons (ms_iconst dL_areFrames_292 rfl rfl) ?_
  refine mb_l_cons (ms_callv (ci := 7) hX (y := 54) (y0 := yX7_ofNote) (bytes := cX7_ofNote) rfl (C := RX7) (T := TX7) (N := 7) rfl mq_L_72_X7_ofNote mw_670 mw_671 mw_672 dL_areFrames_293 (fun _ _ _ h => nomatch h) rfl) ?_
  refine mb_l_cons (ms_if_lt dL_areFrames_296 rfl rfl) ?_
  refine mb_l_cons (ms_aload_n dL_areFrames_299 rfl rfl) ?_
  refine mb_l_cons (ms_iload dL_areFrames_300 rfl) ?_
  refine mb_l_cons (ms_iconst dL_areFrames_302 rfl rfl) ?_
  refine mb_l_cons (ms_callv (ci := 7) hX (y := 54) (y0 := yX7_ofNote) (bytes := cX7_ofNote) rfl (C := RX7) (T := TX7) (N := 7) rfl mq_L_72_X7_ofNote mw_670 mw_671 mw_672 dL_areFrames_303 (fun _ _ _ h => nomatch h) rfl) ?_
  refine mb_l_cons (ms_iload_n dL_areFrames_306 rfl rfl) ?_
  refine mb_l_cons (ms_icmp_ge dL_areFrames_307 rfl rfl) ?_
  refine mb_l_cons (ms_iconst dL_areFrames_310 rfl rfl) ?_
  refine mb_l_cons (ms_goto dL_areFrames_311 rfl) ?_
  refine mb_l_cons (ms_iconst dL_areFrames_314 rfl rfl) ?_
  refine mb_l_cons (ms_istore dL_areFrames_315 rfl) ?_
  refine mb_l_cons (ms_iinc dL_areFrames_317 rfl rfl) ?_
  refine mb_l_cons (ms_goto dL_areFrames_320 rfl) ?_
  refine mb_l_cons (ms_iload dL_areFrames_323 rfl) ?_
  refine mb_l_cons (ms_if_eq dL_areFrames_325 rfl rfl) ?_
  refine mb_l_cons (ms_aload_n dL_areFrames_328 rfl rfl) ?_
  refine mb_l_cons (ms_iload_n dL_areFrames_329 rfl rfl) ?_
  refine mb_l_cons (ms_callv (ci := 7) hX (y := 57) (y0 := yX7_needs) (bytes := cX7_needs) rfl (C := RX7) (T := TX7) (N := 7) rfl mq_L_75_X7_needs mw_385 mw_386 mw_387 dL_areFrames_330 (fun _ _ _ h => nomatch h) rfl) ?_
  refine mb_l_cons (ms_iload dL_areFrames_333 rfl) ?_
  refine mb_l_cons (ms_icmp_ne dL_areFrames_335 rfl rfl) ?_
  refine mb_l_cons (ms_iload dL_areFrames_338 rfl) ?_
  refine mb_l_cons (ms_iload dL_areFrames_340 rfl) ?_
  refine mb_l_cons (ms_icmp_ne dL_areFrames_342 rfl rfl) ?_
  refine mb_l_cons (ms_aload_n dL_areFrames_345 rfl rfl) ?_
  refine mb_l_cons (ms_iload_n dL_areFrames_346 rfl rfl) ?_
  refine mb_l_cons (ms_callv (ci := 7) hX (y := 58) (y0 := yX7_mixes) (bytes := cX7_mixes) rfl (C := RX7) (T := TX7) (N := 7) rfl mq_L_78_X7_mixes mw_393 mw_394 mw_395 dL_areFrames_347 (fun _ _ _ h => nomatch h) rfl) ?_
  refine mb_l_cons (ms_if_lt dL_areFrames_350 rfl rfl) ?_
  refine mb_l_cons (ms_aload_n dL_areFrames_353 rfl rfl) ?_
  refine mb_l_cons (ms_iload_n dL_areFrames_354 rfl rfl) ?_
  refine mb_l_cons (ms_callv (ci := 7) hX (y := 58) (y0 := yX7_mixes) (bytes := cX7_mixes) rfl (C := RX7) (T := TX7) (N := 7) rfl mq_L_78_X7_mixes mw_393 mw_394 mw_395 dL_areFrames_355 (fun _ _ _ h => nomatch h) rfl) ?_
  refine mb_l_cons (ms_iconst dL_areFrames_358 rfl rfl) ?_
  refine mb_l_cons (ms_icmp_gt dL_areFrames_359 rfl rfl) ?_
  refine mb_l_cons (ms_iconst dL_areFrames_362 rfl rfl) ?_
  refine mb_l_cons (ms_goto dL_areFrames_363 rfl) ?_
  refine mb_l_cons (ms_iconst dL_areFrames_366 rfl rfl) ?_
  refine mb_l_cons (ms_zret dL_areFrames_367 rfl) ?_
  exact mb_l_nil
end MBX
