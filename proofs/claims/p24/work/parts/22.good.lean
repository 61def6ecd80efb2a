/-! every row: the heap grows, more fuel does no harm -/
theorem mz_X0_init : ∀ pc i, mb_look mc_X0_init pc = some i → mb_Mon i ∧ mb_Le i := by
  unfold mc_X0_init
  refine mb_l_cons ⟨mm_ald _ _, ml_ald _ _⟩ ?_
  refine mb_l_cons ⟨mm_oinit _, ml_oinit _⟩ ?_
  refine mb_l_cons ⟨mm_ald _ _, ml_ald _ _⟩ ?_
  refine mb_l_cons ⟨mm_new _ _ _, ml_new _ _ _⟩ ?_
  refine mb_l_cons ⟨mm_dup _, ml_dup _⟩ ?_
  refine mb_l_cons ⟨mm_calli _ _ _, ml_calli _ _ _⟩ ?_
  refine mb_l_cons ⟨mm_putf _ _ _ _, ml_putf _ _ _ _⟩ ?_
  refine mb_l_cons ⟨mm_ald _ _, ml_ald _ _⟩ ?_
  refine mb_l_cons ⟨mm_push _ _, ml_push _ _⟩ ?_
  refine mb_l_cons ⟨mm_newq _ _, ml_newq _ _⟩ ?_
  refine mb_l_cons ⟨mm_putf _ _ _ _, ml_putf _ _ _ _⟩ ?_
  refine mb_l_cons ⟨mm_vret, ml_vret⟩ ?_
  exact mb_l_nil
theorem mz_X0_addVersion : ∀ pc i, mb_look mc_X0_addVersion pc = some i → mb_Mon i ∧ mb_Le i := by
  unfold mc_X0_addVersion
  refine mb_l_cons ⟨mm_ald _ _, ml_ald _ _⟩ ?_
  refine mb_l_cons ⟨mm_getf _ _ _, ml_getf _ _ _⟩ ?_
  refine mb_l_cons ⟨mm_push _ _, ml_push _ _⟩ ?_
  refine mb_l_cons ⟨mm_if2 _ _ _, ml_if2 _ _ _⟩ ?_
  refine mb_l_cons ⟨mm_push _ _, ml_push _ _⟩ ?_
  refine mb_l_cons ⟨mm_iret, ml_iret⟩ ?_
  refine mb_l_cons ⟨mm_ald _ _, ml_ald _ _⟩ ?_
  refine mb_l_cons ⟨mm_getf _ _ _, ml_getf _ _ _⟩ ?_
  refine mb_l_cons ⟨mm_ald _ _, ml_ald _ _⟩ ?_
  refine mb_l_cons ⟨mm_getf _ _ _, ml_getf _ _ _⟩ ?_
  refine mb_l_cons ⟨mm_ald _ _, ml_ald _ _⟩ ?_
  refine mb_l_cons ⟨mm_getf _ _ _, ml_getf _ _ _⟩ ?_
  refine mb_l_cons ⟨mm_callv _ _ _ _ _, ml_callv _ _ _ _ _⟩ ?_
  refine mb_l_cons ⟨mm_aast _ _, ml_aast _ _⟩ ?_
  refine mb_l_cons ⟨mm_ald _ _, ml_ald _ _⟩ ?_
  refine mb_l_cons ⟨mm_dup _, ml_dup _⟩ ?_
  refine mb_l_cons ⟨mm_getf _ _ _, ml_getf _ _ _⟩ ?_
  refine mb_l_cons ⟨mm_dupx1 _, ml_dupx1 _⟩ ?_
  refine mb_l_cons ⟨mm_push _ _, ml_push _ _⟩ ?_
  refine mb_l_cons ⟨mm_iadd _, ml_iadd _⟩ ?_
  refine mb_l_cons ⟨mm_putf _ _ _ _, ml_putf _ _ _ _⟩ ?_
  refine mb_l_cons ⟨mm_iret, ml_iret⟩ ?_
  exact mb_l_nil
theorem mz_X0_versionAt : ∀ pc i, mb_look mc_X0_versionAt pc = some i → mb_Mon i ∧ mb_Le i := by
  unfold mc_X0_versionAt
  refine mb_l_cons ⟨mm_ild _ _, ml_ild _ _⟩ ?_
  refine mb_l_cons ⟨mm_if1 _ _ _, ml_if1 _ _ _⟩ ?_
  refine mb_l_cons ⟨mm_ild _ _, ml_ild _ _⟩ ?_
  refine mb_l_cons ⟨mm_ald _ _, ml_ald _ _⟩ ?_
  refine mb_l_cons ⟨mm_getf _ _ _, ml_getf _ _ _⟩ ?_
  refine mb_l_cons ⟨mm_if2 _ _ _, ml_if2 _ _ _⟩ ?_
  refine mb_l_cons ⟨mm_push _ _, ml_push _ _⟩ ?_
  refine mb_l_cons ⟨mm_go _, ml_go _⟩ ?_
  refine mb_l_cons ⟨mm_ald _ _, ml_ald _ _⟩ ?_
  refine mb_l_cons ⟨mm_getf _ _ _, ml_getf _ _ _⟩ ?_
  refine mb_l_cons ⟨mm_ild _ _, ml_ild _ _⟩ ?_
  refine mb_l_cons ⟨mm_aald _, ml_aald _⟩ ?_
  refine mb_l_cons ⟨mm_aret, ml_aret⟩ ?_
  exact mb_l_nil
theorem mz_X0_looksAlike : ∀ pc i, mb_look mc_X0_looksAlike pc = some i → mb_Mon i ∧ mb_Le i := by
  unfold mc_X0_looksAlike
  refine mb_l_cons ⟨mm_ild _ _, ml_ild _ _⟩ ?_
  refine mb_l_cons ⟨mm_ild _ _, ml_ild _ _⟩ ?_
  refine mb_l_cons ⟨mm_if2 _ _ _, ml_if2 _ _ _⟩ ?_
  refine mb_l_cons ⟨mm_push _ _, ml_push _ _⟩ ?_
  refine mb_l_cons ⟨mm_zret, ml_zret⟩ ?_
  refine mb_l_cons ⟨mm_ald _ _, ml_ald _ _⟩ ?_
  refine mb_l_cons ⟨mm_ild _ _, ml_ild _ _⟩ ?_
  refine mb_l_cons ⟨mm_callv _ _ _ _ _, ml_callv _ _ _ _ _⟩ ?_
  refine mb_l_cons ⟨mm_ast _ _, ml_ast _ _⟩ ?_
  refine mb_l_cons ⟨mm_ald _ _, ml_ald _ _⟩ ?_
  refine mb_l_cons ⟨mm_ild _ _, ml_ild _ _⟩ ?_
  refine mb_l_cons ⟨mm_callv _ _ _ _ _, ml_callv _ _ _ _ _⟩ ?_
  refine mb_l_cons ⟨mm_ast _ _, ml_ast _ _⟩ ?_
  refine mb_l_cons ⟨mm_ald _ _, ml_ald _ _⟩ ?_
  refine mb_l_cons ⟨mm_ifn _ _, ml_ifn _ _⟩ ?_
  refine mb_l_cons ⟨mm_ald _ _, ml_ald _ _⟩ ?_
  refine mb_l_cons ⟨mm_ifn _ _, ml_ifn _ _⟩ ?_
  refine mb_l_cons ⟨mm_ald _ _, ml_ald _ _⟩ ?_
  refine mb_l_cons ⟨mm_ald _ _, ml_ald _ _⟩ ?_
  refine mb_l_cons ⟨mm_ild _ _, ml_ild _ _⟩ ?_
  refine mb_l_cons ⟨mm_callv _ _ _ _ _, ml_callv _ _ _ _ _⟩ ?_
  refine mb_l_cons ⟨mm_if1 _ _ _, ml_if1 _ _ _⟩ ?_
  refine mb_l_cons ⟨mm_push _ _, ml_push _ _⟩ ?_
  refine mb_l_cons ⟨mm_go _, ml_go _⟩ ?_
  refine mb_l_cons ⟨mm_push _ _, ml_push _ _⟩ ?_
  refine mb_l_cons ⟨mm_zret, ml_zret⟩ ?_
  exact mb_l_nil
theorem mz_X1_init : ∀ pc i, mb_look mc_X1_init pc = some i → mb_Mon i ∧ mb_Le i := by
  unfold mc_X1_init
  refine mb_l_cons ⟨mm_ald _ _, ml_ald _ _⟩ ?_
  refine mb_l_cons ⟨mm_oinit _, ml_oinit _⟩ ?_
  refine mb_l_cons ⟨mm_vret, ml_vret⟩ ?_
  exact mb_l_nil
theorem mz_X1_covers : ∀ pc i, mb_look mc_X1_covers pc = some i → mb_Mon i ∧ mb_Le i := by
  unfold mc_X1_covers
  refine mb_l_cons ⟨mm_ild _ _, ml_ild _ _⟩ ?_
  refine mb_l_cons ⟨mm_ald _ _, ml_ald _ _⟩ ?_
  refine mb_l_cons ⟨mm_getf _ _ _, ml_getf _ _ _⟩ ?_
  refine mb_l_cons ⟨mm_if2 _ _ _, ml_if2 _ _ _⟩ ?_
  refine mb_l_cons ⟨mm_ild _ _, ml_ild _ _⟩ ?_
  refine mb_l_cons ⟨mm_ald _ _, ml_ald _ _⟩ ?_
  refine mb_l_cons ⟨mm_getf _ _ _, ml_getf _ _ _⟩ ?_
  refine mb_l_cons ⟨mm_if2 _ _ _, ml_if2 _ _ _⟩ ?_
  refine mb_l_cons ⟨mm_push _ _, ml_push _ _⟩ ?_
  refine mb_l_cons ⟨mm_go _, ml_go _⟩ ?_
  refine mb_l_cons ⟨mm_push _ _, ml_push _ _⟩ ?_
  refine mb_l_cons ⟨mm_zret, ml_zret⟩ ?_
  exact mb_l_nil
theorem mz_X2_init : ∀ pc i, mb_look mc_X2_init pc = some i → mb_Mon i ∧ mb_Le i := by
  unfold mc_X2_init
  refine mb_l_cons ⟨mm_ald _ _, ml_ald _ _⟩ ?_
  refine mb_l_cons ⟨mm_oinit _, ml_oinit _⟩ ?_
  refine mb_l_cons ⟨mm_ald _ _, ml_ald _ _⟩ ?_
  refine mb_l_cons ⟨mm_push _ _, ml_push _ _⟩ ?_
  refine mb_l_cons ⟨mm_newi _, ml_newi _⟩ ?_
  refine mb_l_cons ⟨mm_putf _ _ _ _, ml_putf _ _ _ _⟩ ?_
  refine mb_l_cons ⟨mm_ald _ _, ml_ald _ _⟩ ?_
  refine mb_l_cons ⟨mm_push _ _, ml_push _ _⟩ ?_
  refine mb_l_cons ⟨mm_newi _, ml_newi _⟩ ?_
  refine mb_l_cons ⟨mm_putf _ _ _ _, ml_putf _ _ _ _⟩ ?_
  refine mb_l_cons ⟨mm_ald _ _, ml_ald _ _⟩ ?_
  refine mb_l_cons ⟨mm_push _ _, ml_push _ _⟩ ?_
  refine mb_l_cons ⟨mm_newi _, ml_newi _⟩ ?_
  refine mb_l_cons ⟨mm_putf _ _ _ _, ml_putf _ _ _ _⟩ ?_
  refine mb_l_cons ⟨mm_vret, ml_vret⟩ ?_
  exact mb_l_nil
theorem mz_X2_keysAhead : ∀ pc i, mb_look mc_X2_keysAhead pc = some i → mb_Mon i ∧ mb_Le i := by
  unfold mc_X2_keysAhead
  refine mb_l_cons ⟨mm_push _ _, ml_push _ _⟩ ?_
  refine mb_l_cons ⟨mm_ist _ _, ml_ist _ _⟩ ?_
  refine mb_l_cons ⟨mm_ild _ _, ml_ild _ _⟩ ?_
  refine mb_l_cons ⟨mm_ald _ _, ml_ald _ _⟩ ?_
  refine mb_l_cons ⟨mm_getf _ _ _, ml_getf _ _ _⟩ ?_
  refine mb_l_cons ⟨mm_if2 _ _ _, ml_if2 _ _ _⟩ ?_
  refine mb_l_cons ⟨mm_ald _ _, ml_ald _ _⟩ ?_
  refine mb_l_cons ⟨mm_getf _ _ _, ml_getf _ _ _⟩ ?_
  refine mb_l_cons ⟨mm_ild _ _, ml_ild _ _⟩ ?_
  refine mb_l_cons ⟨mm_iald _, ml_iald _⟩ ?_
  refine mb_l_cons ⟨mm_ild _ _, ml_ild _ _⟩ ?_
  refine mb_l_cons ⟨mm_if2 _ _ _, ml_if2 _ _ _⟩ ?_
  refine mb_l_cons ⟨mm_iinc _ _ _, ml_iinc _ _ _⟩ ?_
  refine mb_l_cons ⟨mm_go _, ml_go _⟩ ?_
  refine mb_l_cons ⟨mm_ild _ _, ml_ild _ _⟩ ?_
  refine mb_l_cons ⟨mm_iret, ml_iret⟩ ?_
  exact mb_l_nil
theorem mz_X2_standsAt : ∀ pc i, mb_look mc_X2_standsAt pc = some i → mb_Mon i ∧ mb_Le i := by
  unfold mc_X2_standsAt
  refine mb_l_cons ⟨mm_ild _ _, ml_ild _ _⟩ ?_
  refine mb_l_cons ⟨mm_ald _ _, ml_ald _ _⟩ ?_
  refine mb_l_cons ⟨mm_getf _ _ _, ml_getf _ _ _⟩ ?_
  refine mb_l_cons ⟨mm_if2 _ _ _, ml_if2 _ _ _⟩ ?_
  refine mb_l_cons ⟨mm_ald _ _, ml_ald _ _⟩ ?_
  refine mb_l_cons ⟨mm_getf _ _ _, ml_getf _ _ _⟩ ?_
  refine mb_l_cons ⟨mm_ild _ _, ml_ild _ _⟩ ?_
  refine mb_l_cons ⟨mm_iald _, ml_iald _⟩ ?_
  refine mb_l_cons ⟨mm_ild _ _, ml_ild _ _⟩ ?_
  refine mb_l_cons ⟨mm_if2 _ _ _, ml_if2 _ _ _⟩ ?_
  refine mb_l_cons ⟨mm_push _ _, ml_push _ _⟩ ?_
  refine mb_l_cons ⟨mm_go _, ml_go _⟩ ?_
  refine mb_l_cons ⟨mm_push _ _, ml_push _ _⟩ ?_
  refine mb_l_cons ⟨mm_zret, ml_zret⟩ ?_
  exact mb_l_nil
theorem mz_X2_hasRoomFor : ∀ pc i, mb_look mc_X2_hasRoomFor pc = some i → mb_Mon i ∧ mb_Le i := by
  unfold mc_X2_hasRoomFor
  refine mb_l_cons ⟨mm_ald _ _, ml_ald _ _⟩ ?_
  refine mb_l_cons ⟨mm_getf _ _ _, ml_getf _ _ _⟩ ?_
  refine mb_l_cons ⟨mm_push _ _, ml_push _ _⟩ ?_
  refine mb_l_cons ⟨mm_if2 _ _ _, ml_if2 _ _ _⟩ ?_
  refine mb_l_cons ⟨mm_ald _ _, ml_ald _ _⟩ ?_
  refine mb_l_cons ⟨mm_ald _ _, ml_ald _ _⟩ ?_
  refine mb_l_cons ⟨mm_ild _ _, ml_ild _ _⟩ ?_
  refine mb_l_cons ⟨mm_callv _ _ _ _ _, ml_callv _ _ _ _ _⟩ ?_
  refine mb_l_cons ⟨mm_ild _ _, ml_ild _ _⟩ ?_
  refine mb_l_cons ⟨mm_callv _ _ _ _ _, ml_callv _ _ _ _ _⟩ ?_
  refine mb_l_cons ⟨mm_if1 _ _ _, ml_if1 _ _ _⟩ ?_
  refine mb_l_cons ⟨mm_push _ _, ml_push _ _⟩ ?_
  refine mb_l_cons ⟨mm_go _, ml_go _⟩ ?_
  refine mb_l_cons ⟨mm_push _ _, ml_push _ _⟩ ?_
  refine mb_l_cons ⟨mm_zret, ml_zret⟩ ?_
  exact mb_l_nil
theorem mz_X2_put : ∀ pc i, mb_look mc_X2_put pc = some i → mb_Mon i ∧ mb_Le i := by
  unfold mc_X2_put
  refine mb_l_cons ⟨mm_ald _ _, ml_ald _ _⟩ ?_
  refine mb_l_cons ⟨mm_ild _ _, ml_ild _ _⟩ ?_
  refine mb_l_cons ⟨mm_callv _ _ _ _ _, ml_callv _ _ _ _ _⟩ ?_
  refine mb_l_cons ⟨mm_if1 _ _ _, ml_if1 _ _ _⟩ ?_
  refine mb_l_cons ⟨mm_vret, ml_vret⟩ ?_
  refine mb_l_cons ⟨mm_ald _ _, ml_ald _ _⟩ ?_
  refine mb_l_cons ⟨mm_ild _ _, ml_ild _ _⟩ ?_
  refine mb_l_cons ⟨mm_callv _ _ _ _ _, ml_callv _ _ _ _ _⟩ ?_
  refine mb_l_cons ⟨mm_ist _ _, ml_ist _ _⟩ ?_
  refine mb_l_cons ⟨mm_ald _ _, ml_ald _ _⟩ ?_
  refine mb_l_cons ⟨mm_ild _ _, ml_ild _ _⟩ ?_
  refine mb_l_cons ⟨mm_ild _ _, ml_ild _ _⟩ ?_
  refine mb_l_cons ⟨mm_callv _ _ _ _ _, ml_callv _ _ _ _ _⟩ ?_
  refine mb_l_cons ⟨mm_if1 _ _ _, ml_if1 _ _ _⟩ ?_
  refine mb_l_cons ⟨mm_ald _ _, ml_ald _ _⟩ ?_
  refine mb_l_cons ⟨mm_getf _ _ _, ml_getf _ _ _⟩ ?_
  refine mb_l_cons ⟨mm_ist _ _, ml_ist _ _⟩ ?_
  refine mb_l_cons ⟨mm_ild _ _, ml_ild _ _⟩ ?_
  refine mb_l_cons ⟨mm_ild _ _, ml_ild _ _⟩ ?_
  refine mb_l_cons ⟨mm_if2 _ _ _, ml_if2 _ _ _⟩ ?_
  refine mb_l_cons ⟨mm_ald _ _, ml_ald _ _⟩ ?_
  refine mb_l_cons ⟨mm_ild _ _, ml_ild _ _⟩ ?_
  refine mb_l_cons ⟨mm_push _ _, ml_push _ _⟩ ?_
  refine mb_l_cons ⟨mm_isub _, ml_isub _⟩ ?_
  refine mb_l_cons ⟨mm_ild _ _, ml_ild _ _⟩ ?_
  refine mb_l_cons ⟨mm_callv _ _ _ _ _, ml_callv _ _ _ _ _⟩ ?_
  refine mb_l_cons ⟨mm_iinc _ _ _, ml_iinc _ _ _⟩ ?_
  refine mb_l_cons ⟨mm_go _, ml_go _⟩ ?_
  refine mb_l_cons ⟨mm_ald _ _, ml_ald _ _⟩ ?_
  refine mb_l_cons ⟨mm_dup _, ml_dup _⟩ ?_
  refine mb_l_cons ⟨mm_getf _ _ _, ml_getf _ _ _⟩ ?_
  refine mb_l_cons ⟨mm_push _ _, ml_push _ _⟩ ?_
  refine mb_l_cons ⟨mm_iadd _, ml_iadd _⟩ ?_
  refine mb_l_cons ⟨mm_putf _ _ _ _, ml_putf _ _ _ _⟩ ?_
  refine mb_l_cons ⟨mm_ald _ _, ml_ald _ _⟩ ?_
  refine mb_l_cons ⟨mm_getf _ _ _, ml_getf _ _ _⟩ ?_
  refine mb_l_cons ⟨mm_ild _ _, ml_ild _ _⟩ ?_
  refine mb_l_cons ⟨mm_ild _ _, ml_ild _ _⟩ ?_
  refine mb_l_cons ⟨mm_iast _, ml_iast _⟩ ?_
  refine mb_l_cons ⟨mm_ald _ _, ml_ald _ _⟩ ?_
  refine mb_l_cons ⟨mm_getf _ _ _, ml_getf _ _ _⟩ ?_
  refine mb_l_cons ⟨mm_ild _ _, ml_ild _ _⟩ ?_
  refine mb_l_cons ⟨mm_ild _ _, ml_ild _ _⟩ ?_
  refine mb_l_cons ⟨mm_iast _, ml_iast _⟩ ?_
  refine mb_l_cons ⟨mm_ald _ _, ml_ald _ _⟩ ?_
  refine mb_l_cons ⟨mm_getf _ _ _, ml_getf _ _ _⟩ ?_
  refine mb_l_cons ⟨mm_ild _ _, ml_ild _ _⟩ ?_
  refine mb_l_cons ⟨mm_ild _ _, ml_ild _ _⟩ ?_
  refine mb_l_cons ⟨mm_iast _, ml_iast _⟩ ?_
  refine mb_l_cons ⟨mm_vret, ml_vret⟩ ?_
  exact mb_l_nil
theorem mz_X2_take : ∀ pc i, mb_look mc_X2_take pc = some i → mb_Mon i ∧ mb_Le i := by
  unfold mc_X2_take
  refine mb_l_cons ⟨mm_ald _ _, ml_ald _ _⟩ ?_
  refine mb_l_cons ⟨mm_ild _ _, ml_ild _ _⟩ ?_
  refine mb_l_cons ⟨mm_callv _ _ _ _ _, ml_callv _ _ _ _ _⟩ ?_
  refine mb_l_cons ⟨mm_ist _ _, ml_ist _ _⟩ ?_
  refine mb_l_cons ⟨mm_ald _ _, ml_ald _ _⟩ ?_
  refine mb_l_cons ⟨mm_ild _ _, ml_ild _ _⟩ ?_
  refine mb_l_cons ⟨mm_ild _ _, ml_ild _ _⟩ ?_
  refine mb_l_cons ⟨mm_callv _ _ _ _ _, ml_callv _ _ _ _ _⟩ ?_
  refine mb_l_cons ⟨mm_if1 _ _ _, ml_if1 _ _ _⟩ ?_
  refine mb_l_cons ⟨mm_push _ _, ml_push _ _⟩ ?_
  refine mb_l_cons ⟨mm_zret, ml_zret⟩ ?_
  refine mb_l_cons ⟨mm_ald _ _, ml_ald _ _⟩ ?_
  refine mb_l_cons ⟨mm_dup _, ml_dup _⟩ ?_
  refine mb_l_cons ⟨mm_getf _ _ _, ml_getf _ _ _⟩ ?_
  refine mb_l_cons ⟨mm_push _ _, ml_push _ _⟩ ?_
  refine mb_l_cons ⟨mm_isub _, ml_isub _⟩ ?_
  refine mb_l_cons ⟨mm_putf _ _ _ _, ml_putf _ _ _ _⟩ ?_
  refine mb_l_cons ⟨mm_ild _ _, ml_ild _ _⟩ ?_
  refine mb_l_cons ⟨mm_ist _ _, ml_ist _ _⟩ ?_
  refine mb_l_cons ⟨mm_ild _ _, ml_ild _ _⟩ ?_
  refine mb_l_cons ⟨mm_ald _ _, ml_ald _ _⟩ ?_
  refine mb_l_cons ⟨mm_getf _ _ _, ml_getf _ _ _⟩ ?_
  refine mb_l_cons ⟨mm_if2 _ _ _, ml_if2 _ _ _⟩ ?_
  refine mb_l_cons ⟨mm_ald _ _, ml_ald _ _⟩ ?_
  refine mb_l_cons ⟨mm_ild _ _, ml_ild _ _⟩ ?_
  refine mb_l_cons ⟨mm_push _ _, ml_push _ _⟩ ?_
  refine mb_l_cons ⟨mm_iadd _, ml_iadd _⟩ ?_
  refine mb_l_cons ⟨mm_ild _ _, ml_ild _ _⟩ ?_
  refine mb_l_cons ⟨mm_callv _ _ _ _ _, ml_callv _ _ _ _ _⟩ ?_
  refine mb_l_cons ⟨mm_iinc _ _ _, ml_iinc _ _ _⟩ ?_
  refine mb_l_cons ⟨mm_go _, ml_go _⟩ ?_
  refine mb_l_cons ⟨mm_push _ _, ml_push _ _⟩ ?_
  refine mb_l_cons ⟨mm_zret, ml_zret⟩ ?_
  exact mb_l_nil
theorem mz_X2_moveKey : ∀ pc i, mb_look mc_X2_moveKey pc = some i → mb_Mon i ∧ mb_Le i := by
  unfold mc_X2_moveKey
  refine mb_l_cons ⟨mm_ald _ _, ml_ald _ _⟩ ?_
  refine mb_l_cons ⟨mm_getf _ _ _, ml_getf _ _ _⟩ ?_
  refine mb_l_cons ⟨mm_ild _ _, ml_ild _ _⟩ ?_
  refine mb_l_cons ⟨mm_ald _ _, ml_ald _ _⟩ ?_
  refine mb_l_cons ⟨mm_getf _ _ _, ml_getf _ _ _⟩ ?_
  refine mb_l_cons ⟨mm_ild _ _, ml_ild _ _⟩ ?_
  refine mb_l_cons ⟨mm_iald _, ml_iald _⟩ ?_
  refine mb_l_cons ⟨mm_iast _, ml_iast _⟩ ?_
  refine mb_l_cons ⟨mm_ald _ _, ml_ald _ _⟩ ?_
  refine mb_l_cons ⟨mm_getf _ _ _, ml_getf _ _ _⟩ ?_
  refine mb_l_cons ⟨mm_ild _ _, ml_ild _ _⟩ ?_
  refine mb_l_cons ⟨mm_ald _ _, ml_ald _ _⟩ ?_
  refine mb_l_cons ⟨mm_getf _ _ _, ml_getf _ _ _⟩ ?_
  refine mb_l_cons ⟨mm_ild _ _, ml_ild _ _⟩ ?_
  refine mb_l_cons ⟨mm_iald _, ml_iald _⟩ ?_
  refine mb_l_cons ⟨mm_iast _, ml_iast _⟩ ?_
  refine mb_l_cons ⟨mm_ald _ _, ml_ald _ _⟩ ?_
  refine mb_l_cons ⟨mm_getf _ _ _, ml_getf _ _ _⟩ ?_
  refine mb_l_cons ⟨mm_ild _ _, ml_ild _ _⟩ ?_
  refine mb_l_cons ⟨mm_ald _ _, ml_ald _ _⟩ ?_
  refine mb_l_cons ⟨mm_getf _ _ _, ml_getf _ _ _⟩ ?_
  refine mb_l_cons ⟨mm_ild _ _, ml_ild _ _⟩ ?_
  refine mb_l_cons ⟨mm_iald _, ml_iald _⟩ ?_
  refine mb_l_cons ⟨mm_iast _, ml_iast _⟩ ?_
  refine mb_l_cons ⟨mm_vret, ml_vret⟩ ?_
  exact mb_l_nil
theorem mz_X2_valueAt : ∀ pc i, mb_look mc_X2_valueAt pc = some i → mb_Mon i ∧ mb_Le i := by
  unfold mc_X2_valueAt
  refine mb_l_cons ⟨mm_ald _ _, ml_ald _ _⟩ ?_
  refine mb_l_cons ⟨mm_getf _ _ _, ml_getf _ _ _⟩ ?_
  refine mb_l_cons ⟨mm_if1 _ _ _, ml_if1 _ _ _⟩ ?_
  refine mb_l_cons ⟨mm_push _ _, ml_push _ _⟩ ?_
  refine mb_l_cons ⟨mm_iret, ml_iret⟩ ?_
  refine mb_l_cons ⟨mm_ald _ _, ml_ald _ _⟩ ?_
  refine mb_l_cons ⟨mm_ild _ _, ml_ild _ _⟩ ?_
  refine mb_l_cons ⟨mm_push _ _, ml_push _ _⟩ ?_
  refine mb_l_cons ⟨mm_iadd _, ml_iadd _⟩ ?_
  refine mb_l_cons ⟨mm_callv _ _ _ _ _, ml_callv _ _ _ _ _⟩ ?_
  refine mb_l_cons ⟨mm_ist _ _, ml_ist _ _⟩ ?_
  refine mb_l_cons ⟨mm_ild _ _, ml_ild _ _⟩ ?_
  refine mb_l_cons ⟨mm_if1 _ _ _, ml_if1 _ _ _⟩ ?_
  refine mb_l_cons ⟨mm_ald _ _, ml_ald _ _⟩ ?_
  refine mb_l_cons ⟨mm_getf _ _ _, ml_getf _ _ _⟩ ?_
  refine mb_l_cons ⟨mm_push _ _, ml_push _ _⟩ ?_
  refine mb_l_cons ⟨mm_iald _, ml_iald _⟩ ?_
  refine mb_l_cons ⟨mm_iret, ml_iret⟩ ?_
  refine mb_l_cons ⟨mm_ild _ _, ml_ild _ _⟩ ?_
  refine mb_l_cons ⟨mm_ald _ _, ml_ald _ _⟩ ?_
  refine mb_l_cons ⟨mm_getf _ _ _, ml_getf _ _ _⟩ ?_
  refine mb_l_cons ⟨mm_if2 _ _ _, ml_if2 _ _ _⟩ ?_
  refine mb_l_cons ⟨mm_ald _ _, ml_ald _ _⟩ ?_
  refine mb_l_cons ⟨mm_getf _ _ _, ml_getf _ _ _⟩ ?_
  refine mb_l_cons ⟨mm_ald _ _, ml_ald _ _⟩ ?_
  refine mb_l_cons ⟨mm_getf _ _ _, ml_getf _ _ _⟩ ?_
  refine mb_l_cons ⟨mm_push _ _, ml_push _ _⟩ ?_
  refine mb_l_cons ⟨mm_isub _, ml_isub _⟩ ?_
  refine mb_l_cons ⟨mm_iald _, ml_iald _⟩ ?_
  refine mb_l_cons ⟨mm_iret, ml_iret⟩ ?_
  refine mb_l_cons ⟨mm_ald _ _, ml_ald _ _⟩ ?_
  refine mb_l_cons ⟨mm_ild _ _, ml_ild _ _⟩ ?_
  refine mb_l_cons ⟨mm_ild _ _, ml_ild _ _⟩ ?_
  refine mb_l_cons ⟨mm_callv _ _ _ _ _, ml_callv _ _ _ _ _⟩ ?_
  refine mb_l_cons ⟨mm_iret, ml_iret⟩ ?_
  exact mb_l_nil
theorem mz_X2_valueAhead : ∀ pc i, mb_look mc_X2_valueAhead pc = some i → mb_Mon i ∧ mb_Le i := by
  unfold mc_X2_valueAhead
  refine mb_l_cons ⟨mm_ild _ _, ml_ild _ _⟩ ?_
  refine mb_l_cons ⟨mm_push _ _, ml_push _ _⟩ ?_
  refine mb_l_cons ⟨mm_isub _, ml_isub _⟩ ?_
  refine mb_l_cons ⟨mm_ist _ _, ml_ist _ _⟩ ?_
  refine mb_l_cons ⟨mm_ald _ _, ml_ald _ _⟩ ?_
  refine mb_l_cons ⟨mm_getf _ _ _, ml_getf _ _ _⟩ ?_
  refine mb_l_cons ⟨mm_ild _ _, ml_ild _ _⟩ ?_
  refine mb_l_cons ⟨mm_iald _, ml_iald _⟩ ?_
  refine mb_l_cons ⟨mm_ist _ _, ml_ist _ _⟩ ?_
  refine mb_l_cons ⟨mm_ald _ _, ml_ald _ _⟩ ?_
  refine mb_l_cons ⟨mm_getf _ _ _, ml_getf _ _ _⟩ ?_
  refine mb_l_cons ⟨mm_ild _ _, ml_ild _ _⟩ ?_
  refine mb_l_cons ⟨mm_iald _, ml_iald _⟩ ?_
  refine mb_l_cons ⟨mm_ald _ _, ml_ald _ _⟩ ?_
  refine mb_l_cons ⟨mm_getf _ _ _, ml_getf _ _ _⟩ ?_
  refine mb_l_cons ⟨mm_ild _ _, ml_ild _ _⟩ ?_
  refine mb_l_cons ⟨mm_iald _, ml_iald _⟩ ?_
  refine mb_l_cons ⟨mm_isub _, ml_isub _⟩ ?_
  refine mb_l_cons ⟨mm_ist _ _, ml_ist _ _⟩ ?_
  refine mb_l_cons ⟨mm_ald _ _, ml_ald _ _⟩ ?_
  refine mb_l_cons ⟨mm_getf _ _ _, ml_getf _ _ _⟩ ?_
  refine mb_l_cons ⟨mm_ild _ _, ml_ild _ _⟩ ?_
  refine mb_l_cons ⟨mm_iald _, ml_iald _⟩ ?_
  refine mb_l_cons ⟨mm_if1 _ _ _, ml_if1 _ _ _⟩ ?_
  refine mb_l_cons ⟨mm_ild _ _, ml_ild _ _⟩ ?_
  refine mb_l_cons ⟨mm_if1 _ _ _, ml_if1 _ _ _⟩ ?_
  refine mb_l_cons ⟨mm_ild _ _, ml_ild _ _⟩ ?_
  refine mb_l_cons ⟨mm_iret, ml_iret⟩ ?_
  refine mb_l_cons ⟨mm_ald _ _, ml_ald _ _⟩ ?_
  refine mb_l_cons ⟨mm_getf _ _ _, ml_getf _ _ _⟩ ?_
  refine mb_l_cons ⟨mm_ild _ _, ml_ild _ _⟩ ?_
  refine mb_l_cons ⟨mm_iald _, ml_iald _⟩ ?_
  refine mb_l_cons ⟨mm_ild _ _, ml_ild _ _⟩ ?_
  refine mb_l_cons ⟨mm_isub _, ml_isub _⟩ ?_
  refine mb_l_cons ⟨mm_ist _ _, ml_ist _ _⟩ ?_
  refine mb_l_cons ⟨mm_ild _ _, ml_ild _ _⟩ ?_
  refine mb_l_cons ⟨mm_ald _ _, ml_ald _ _⟩ ?_
  refine mb_l_cons ⟨mm_getf _ _ _, ml_getf _ _ _⟩ ?_
  refine mb_l_cons ⟨mm_ild _ _, ml_ild _ _⟩ ?_
  refine mb_l_cons ⟨mm_iald _, ml_iald _⟩ ?_
  refine mb_l_cons ⟨mm_isub _, ml_isub _⟩ ?_
  refine mb_l_cons ⟨mm_ist _ _, ml_ist _ _⟩ ?_
  refine mb_l_cons ⟨mm_ald _ _, ml_ald _ _⟩ ?_
  refine mb_l_cons ⟨mm_getf _ _ _, ml_getf _ _ _⟩ ?_
  refine mb_l_cons ⟨mm_ild _ _, ml_ild _ _⟩ ?_
  refine mb_l_cons ⟨mm_iald _, ml_iald _⟩ ?_
  refine mb_l_cons ⟨mm_push _ _, ml_push _ _⟩ ?_
  refine mb_l_cons ⟨mm_if2 _ _ _, ml_if2 _ _ _⟩ ?_
  refine mb_l_cons ⟨mm_ild _ _, ml_ild _ _⟩ ?_
  refine mb_l_cons ⟨mm_ild _ _, ml_ild _ _⟩ ?_
  refine mb_l_cons ⟨mm_ild _ _, ml_ild _ _⟩ ?_
  refine mb_l_cons ⟨mm_imul _, ml_imul _⟩ ?_
  refine mb_l_cons ⟨mm_ild _ _, ml_ild _ _⟩ ?_
  refine mb_l_cons ⟨mm_calls _ _ _, ml_calls _ _ _⟩ ?_
  refine mb_l_cons ⟨mm_iadd _, ml_iadd _⟩ ?_
  refine mb_l_cons ⟨mm_iret, ml_iret⟩ ?_
  refine mb_l_cons ⟨mm_ild _ _, ml_ild _ _⟩ ?_
  refine mb_l_cons ⟨mm_ild _ _, ml_ild _ _⟩ ?_
  refine mb_l_cons ⟨mm_ild _ _, ml_ild _ _⟩ ?_
  refine mb_l_cons ⟨mm_imul _, ml_imul _⟩ ?_
  refine mb_l_cons ⟨mm_ild _ _, ml_ild _ _⟩ ?_
  refine mb_l_cons ⟨mm_imul _, ml_imul _⟩ ?_
  refine mb_l_cons ⟨mm_ild _ _, ml_ild _ _⟩ ?_
  refine mb_l_cons ⟨mm_ild _ _, ml_ild _ _⟩ ?_
  refine mb_l_cons ⟨mm_imul _, ml_imul _⟩ ?_
  refine mb_l_cons ⟨mm_calls _ _ _, ml_calls _ _ _⟩ ?_
  refine mb_l_cons ⟨mm_iadd _, ml_iadd _⟩ ?_
  refine mb_l_cons ⟨mm_iret, ml_iret⟩ ?_
  exact mb_l_nil
theorem mz_X2_copy : ∀ pc i, mb_look mc_X2_copy pc = some i → mb_Mon i ∧ mb_Le i := by
  unfold mc_X2_copy
  refine mb_l_cons ⟨mm_new _ _ _, ml_new _ _ _⟩ ?_
  refine mb_l_cons ⟨mm_dup _, ml_dup _⟩ ?_
  refine mb_l_cons ⟨mm_calli _ _ _, ml_calli _ _ _⟩ ?_
  refine mb_l_cons ⟨mm_ast _ _, ml_ast _ _⟩ ?_
  refine mb_l_cons ⟨mm_push _ _, ml_push _ _⟩ ?_
  refine mb_l_cons ⟨mm_ist _ _, ml_ist _ _⟩ ?_
  refine mb_l_cons ⟨mm_ild _ _, ml_ild _ _⟩ ?_
  refine mb_l_cons ⟨mm_ald _ _, ml_ald _ _⟩ ?_
  refine mb_l_cons ⟨mm_getf _ _ _, ml_getf _ _ _⟩ ?_
  refine mb_l_cons ⟨mm_if2 _ _ _, ml_if2 _ _ _⟩ ?_
  refine mb_l_cons ⟨mm_ald _ _, ml_ald _ _⟩ ?_
  refine mb_l_cons ⟨mm_getf _ _ _, ml_getf _ _ _⟩ ?_
  refine mb_l_cons ⟨mm_ild _ _, ml_ild _ _⟩ ?_
  refine mb_l_cons ⟨mm_ald _ _, ml_ald _ _⟩ ?_
  refine mb_l_cons ⟨mm_getf _ _ _, ml_getf _ _ _⟩ ?_
  refine mb_l_cons ⟨mm_ild _ _, ml_ild _ _⟩ ?_
  refine mb_l_cons ⟨mm_iald _, ml_iald _⟩ ?_
  refine mb_l_cons ⟨mm_iast _, ml_iast _⟩ ?_
  refine mb_l_cons ⟨mm_ald _ _, ml_ald _ _⟩ ?_
  refine mb_l_cons ⟨mm_getf _ _ _, ml_getf _ _ _⟩ ?_
  refine mb_l_cons ⟨mm_ild _ _, ml_ild _ _⟩ ?_
  refine mb_l_cons ⟨mm_ald _ _, ml_ald _ _⟩ ?_
  refine mb_l_cons ⟨mm_getf _ _ _, ml_getf _ _ _⟩ ?_
  refine mb_l_cons ⟨mm_ild _ _, ml_ild _ _⟩ ?_
  refine mb_l_cons ⟨mm_iald _, ml_iald _⟩ ?_
  refine mb_l_cons ⟨mm_iast _, ml_iast _⟩ ?_
  refine mb_l_cons ⟨mm_ald _ _, ml_ald _ _⟩ ?_
  refine mb_l_cons ⟨mm_getf _ _ _, ml_getf _ _ _⟩ ?_
  refine mb_l_cons ⟨mm_ild _ _, ml_ild _ _⟩ ?_
  refine mb_l_cons ⟨mm_ald _ _, ml_ald _ _⟩ ?_
  refine mb_l_cons ⟨mm_getf _ _ _, ml_getf _ _ _⟩ ?_
  refine mb_l_cons ⟨mm_ild _ _, ml_ild _ _⟩ ?_
  refine mb_l_cons ⟨mm_iald _, ml_iald _⟩ ?_
  refine mb_l_cons ⟨mm_iast _, ml_iast _⟩ ?_
  refine mb_l_cons ⟨mm_iinc _ _ _, ml_iinc _ _ _⟩ ?_
  refine mb_l_cons ⟨mm_go _, ml_go _⟩ ?_
  refine mb_l_cons ⟨mm_ald _ _, ml_ald _ _⟩ ?_
  refine mb_l_cons ⟨mm_ald _ _, ml_ald _ _⟩ ?_
  refine mb_l_cons ⟨mm_getf _ _ _, ml_getf _ _ _⟩ ?_
  refine mb_l_cons ⟨mm_putf _ _ _ _, ml_putf _ _ _ _⟩ ?_
  refine mb_l_cons ⟨mm_ald _ _, ml_ald _ _⟩ ?_
  refine mb_l_cons ⟨mm_aret, ml_aret⟩ ?_
  exact mb_l_nil
theorem mz_X3_init : ∀ pc i, mb_look mc_X3_init pc = some i → mb_Mon i ∧ mb_Le i := by
  unfold mc_X3_init
  refine mb_l_cons ⟨mm_ald _ _, ml_ald _ _⟩ ?_
  refine mb_l_cons ⟨mm_oinit _, ml_oinit _⟩ ?_
  refine mb_l_cons ⟨mm_ald _ _, ml_ald _ _⟩ ?_
  refine mb_l_cons ⟨mm_push _ _, ml_push _ _⟩ ?_
  refine mb_l_cons ⟨mm_newi _, ml_newi _⟩ ?_
  refine mb_l_cons ⟨mm_putf _ _ _ _, ml_putf _ _ _ _⟩ ?_
  refine mb_l_cons ⟨mm_ald _ _, ml_ald _ _⟩ ?_
  refine mb_l_cons ⟨mm_ild _ _, ml_ild _ _⟩ ?_
  refine mb_l_cons ⟨mm_putf _ _ _ _, ml_putf _ _ _ _⟩ ?_
  refine mb_l_cons ⟨mm_push _ _, ml_push _ _⟩ ?_
  refine mb_l_cons ⟨mm_ist _ _, ml_ist _ _⟩ ?_
  refine mb_l_cons ⟨mm_ild _ _, ml_ild _ _⟩ ?_
  refine mb_l_cons ⟨mm_push _ _, ml_push _ _⟩ ?_
  refine mb_l_cons ⟨mm_if2 _ _ _, ml_if2 _ _ _⟩ ?_
  refine mb_l_cons ⟨mm_ald _ _, ml_ald _ _⟩ ?_
  refine mb_l_cons ⟨mm_getf _ _ _, ml_getf _ _ _⟩ ?_
  refine mb_l_cons ⟨mm_ild _ _, ml_ild _ _⟩ ?_
  refine mb_l_cons ⟨mm_push _ _, ml_push _ _⟩ ?_
  refine mb_l_cons ⟨mm_iast _, ml_iast _⟩ ?_
  refine mb_l_cons ⟨mm_iinc _ _ _, ml_iinc _ _ _⟩ ?_
  refine mb_l_cons ⟨mm_go _, ml_go _⟩ ?_
  refine mb_l_cons ⟨mm_vret, ml_vret⟩ ?_
  exact mb_l_nil
theorem mz_X3_versionOf : ∀ pc i, mb_look mc_X3_versionOf pc = some i → mb_Mon i ∧ mb_Le i := by
  unfold mc_X3_versionOf
  refine mb_l_cons ⟨mm_ild _ _, ml_ild _ _⟩ ?_
  refine mb_l_cons ⟨mm_if1 _ _ _, ml_if1 _ _ _⟩ ?_
  refine mb_l_cons ⟨mm_ild _ _, ml_ild _ _⟩ ?_
  refine mb_l_cons ⟨mm_push _ _, ml_push _ _⟩ ?_
  refine mb_l_cons ⟨mm_if2 _ _ _, ml_if2 _ _ _⟩ ?_
  refine mb_l_cons ⟨mm_push _ _, ml_push _ _⟩ ?_
  refine mb_l_cons ⟨mm_go _, ml_go _⟩ ?_
  refine mb_l_cons ⟨mm_ald _ _, ml_ald _ _⟩ ?_
  refine mb_l_cons ⟨mm_getf _ _ _, ml_getf _ _ _⟩ ?_
  refine mb_l_cons ⟨mm_ild _ _, ml_ild _ _⟩ ?_
  refine mb_l_cons ⟨mm_iald _, ml_iald _⟩ ?_
  refine mb_l_cons ⟨mm_iret, ml_iret⟩ ?_
  exact mb_l_nil
theorem mz_X3_keepVersion : ∀ pc i, mb_look mc_X3_keepVersion pc = some i → mb_Mon i ∧ mb_Le i := by
  unfold mc_X3_keepVersion
  refine mb_l_cons ⟨mm_ild _ _, ml_ild _ _⟩ ?_
  refine mb_l_cons ⟨mm_if1 _ _ _, ml_if1 _ _ _⟩ ?_
  refine mb_l_cons ⟨mm_ild _ _, ml_ild _ _⟩ ?_
  refine mb_l_cons ⟨mm_push _ _, ml_push _ _⟩ ?_
  refine mb_l_cons ⟨mm_if2 _ _ _, ml_if2 _ _ _⟩ ?_
  refine mb_l_cons ⟨mm_ald _ _, ml_ald _ _⟩ ?_
  refine mb_l_cons ⟨mm_getf _ _ _, ml_getf _ _ _⟩ ?_
  refine mb_l_cons ⟨mm_ild _ _, ml_ild _ _⟩ ?_
  refine mb_l_cons ⟨mm_ild _ _, ml_ild _ _⟩ ?_
  refine mb_l_cons ⟨mm_iast _, ml_iast _⟩ ?_
  refine mb_l_cons ⟨mm_vret, ml_vret⟩ ?_
  exact mb_l_nil
theorem mz_X4_init : ∀ pc i, mb_look mc_X4_init pc = some i → mb_Mon i ∧ mb_Le i := by
  unfold mc_X4_init
  refine mb_l_cons ⟨mm_ald _ _, ml_ald _ _⟩ ?_
  refine mb_l_cons ⟨mm_oinit _, ml_oinit _⟩ ?_
  refine mb_l_cons ⟨mm_ald _ _, ml_ald _ _⟩ ?_
  refine mb_l_cons ⟨mm_ild _ _, ml_ild _ _⟩ ?_
  refine mb_l_cons ⟨mm_putf _ _ _ _, ml_putf _ _ _ _⟩ ?_
  refine mb_l_cons ⟨mm_ald _ _, ml_ald _ _⟩ ?_
  refine mb_l_cons ⟨mm_ild _ _, ml_ild _ _⟩ ?_
  refine mb_l_cons ⟨mm_putf _ _ _ _, ml_putf _ _ _ _⟩ ?_
  refine mb_l_cons ⟨mm_vret, ml_vret⟩ ?_
  exact mb_l_nil
theorem mz_X4_followCut : ∀ pc i, mb_look mc_X4_followCut pc = some i → mb_Mon i ∧ mb_Le i := by
  unfold mc_X4_followCut
  refine mb_l_cons ⟨mm_ald _ _, ml_ald _ _⟩ ?_
  refine mb_l_cons ⟨mm_getf _ _ _, ml_getf _ _ _⟩ ?_
  refine mb_l_cons ⟨mm_ild _ _, ml_ild _ _⟩ ?_
  refine mb_l_cons ⟨mm_ild _ _, ml_ild _ _⟩ ?_
  refine mb_l_cons ⟨mm_iadd _, ml_iadd _⟩ ?_
  refine mb_l_cons ⟨mm_if2 _ _ _, ml_if2 _ _ _⟩ ?_
  refine mb_l_cons ⟨mm_ald _ _, ml_ald _ _⟩ ?_
  refine mb_l_cons ⟨mm_dup _, ml_dup _⟩ ?_
  refine mb_l_cons ⟨mm_getf _ _ _, ml_getf _ _ _⟩ ?_
  refine mb_l_cons ⟨mm_ild _ _, ml_ild _ _⟩ ?_
  refine mb_l_cons ⟨mm_isub _, ml_isub _⟩ ?_
  refine mb_l_cons ⟨mm_putf _ _ _ _, ml_putf _ _ _ _⟩ ?_
  refine mb_l_cons ⟨mm_go _, ml_go _⟩ ?_
  refine mb_l_cons ⟨mm_ald _ _, ml_ald _ _⟩ ?_
  refine mb_l_cons ⟨mm_getf _ _ _, ml_getf _ _ _⟩ ?_
  refine mb_l_cons ⟨mm_ild _ _, ml_ild _ _⟩ ?_
  refine mb_l_cons ⟨mm_if2 _ _ _, ml_if2 _ _ _⟩ ?_
  refine mb_l_cons ⟨mm_ald _ _, ml_ald _ _⟩ ?_
  refine mb_l_cons ⟨mm_ild _ _, ml_ild _ _⟩ ?_
  refine mb_l_cons ⟨mm_ild _ _, ml_ild _ _⟩ ?_
  refine mb_l_cons ⟨mm_if2 _ _ _, ml_if2 _ _ _⟩ ?_
  refine mb_l_cons ⟨mm_ild _ _, ml_ild _ _⟩ ?_
  refine mb_l_cons ⟨mm_go _, ml_go _⟩ ?_
  refine mb_l_cons ⟨mm_ild _ _, ml_ild _ _⟩ ?_
  refine mb_l_cons ⟨mm_push _ _, ml_push _ _⟩ ?_
  refine mb_l_cons ⟨mm_isub _, ml_isub _⟩ ?_
  refine mb_l_cons ⟨mm_putf _ _ _ _, ml_putf _ _ _ _⟩ ?_
  refine mb_l_cons ⟨mm_ald _ _, ml_ald _ _⟩ ?_
  refine mb_l_cons ⟨mm_dup _, ml_dup _⟩ ?_
  refine mb_l_cons ⟨mm_getf _ _ _, ml_getf _ _ _⟩ ?_
  refine mb_l_cons ⟨mm_push _ _, ml_push _ _⟩ ?_
  refine mb_l_cons ⟨mm_iadd _, ml_iadd _⟩ ?_
  refine mb_l_cons ⟨mm_putf _ _ _ _, ml_putf _ _ _ _⟩ ?_
  refine mb_l_cons ⟨mm_vret, ml_vret⟩ ?_
  exact mb_l_nil
theorem mz_X5_init : ∀ pc i, mb_look mc_X5_init pc = some i → mb_Mon i ∧ mb_Le i := by
  unfold mc_X5_init
  refine mb_l_cons ⟨mm_ald _ _, ml_ald _ _⟩ ?_
  refine mb_l_cons ⟨mm_oinit _, ml_oinit _⟩ ?_
  refine mb_l_cons ⟨mm_ald _ _, ml_ald _ _⟩ ?_
  refine mb_l_cons ⟨mm_push _ _, ml_push _ _⟩ ?_
  refine mb_l_cons ⟨mm_newi _, ml_newi _⟩ ?_
  refine mb_l_cons ⟨mm_putf _ _ _ _, ml_putf _ _ _ _⟩ ?_
  refine mb_l_cons ⟨mm_ald _ _, ml_ald _ _⟩ ?_
  refine mb_l_cons ⟨mm_push _ _, ml_push _ _⟩ ?_
  refine mb_l_cons ⟨mm_newq _ _, ml_newq _ _⟩ ?_
  refine mb_l_cons ⟨mm_putf _ _ _ _, ml_putf _ _ _ _⟩ ?_
  refine mb_l_cons ⟨mm_vret, ml_vret⟩ ?_
  exact mb_l_nil
theorem mz_X5_hasBone : ∀ pc i, mb_look mc_X5_hasBone pc = some i → mb_Mon i ∧ mb_Le i := by
  unfold mc_X5_hasBone
  refine mb_l_cons ⟨mm_ild _ _, ml_ild _ _⟩ ?_
  refine mb_l_cons ⟨mm_if1 _ _ _, ml_if1 _ _ _⟩ ?_
  refine mb_l_cons ⟨mm_ild _ _, ml_ild _ _⟩ ?_
  refine mb_l_cons ⟨mm_ald _ _, ml_ald _ _⟩ ?_
  refine mb_l_cons ⟨mm_getf _ _ _, ml_getf _ _ _⟩ ?_
  refine mb_l_cons ⟨mm_if2 _ _ _, ml_if2 _ _ _⟩ ?_
  refine mb_l_cons ⟨mm_push _ _, ml_push _ _⟩ ?_
  refine mb_l_cons ⟨mm_go _, ml_go _⟩ ?_
  refine mb_l_cons ⟨mm_push _ _, ml_push _ _⟩ ?_
  refine mb_l_cons ⟨mm_zret, ml_zret⟩ ?_
  exact mb_l_nil
theorem mz_X5_curveOf : ∀ pc i, mb_look mc_X5_curveOf pc = some i → mb_Mon i ∧ mb_Le i := by
  unfold mc_X5_curveOf
  refine mb_l_cons ⟨mm_ald _ _, ml_ald _ _⟩ ?_
  refine mb_l_cons ⟨mm_ild _ _, ml_ild _ _⟩ ?_
  refine mb_l_cons ⟨mm_callv _ _ _ _ _, ml_callv _ _ _ _ _⟩ ?_
  refine mb_l_cons ⟨mm_if1 _ _ _, ml_if1 _ _ _⟩ ?_
  refine mb_l_cons ⟨mm_ald _ _, ml_ald _ _⟩ ?_
  refine mb_l_cons ⟨mm_getf _ _ _, ml_getf _ _ _⟩ ?_
  refine mb_l_cons ⟨mm_ild _ _, ml_ild _ _⟩ ?_
  refine mb_l_cons ⟨mm_aald _, ml_aald _⟩ ?_
  refine mb_l_cons ⟨mm_go _, ml_go _⟩ ?_
  refine mb_l_cons ⟨mm_push _ _, ml_push _ _⟩ ?_
  refine mb_l_cons ⟨mm_aret, ml_aret⟩ ?_
  exact mb_l_nil
theorem mz_X5_addBone : ∀ pc i, mb_look mc_X5_addBone pc = some i → mb_Mon i ∧ mb_Le i := by
  unfold mc_X5_addBone
  refine mb_l_cons ⟨mm_ald _ _, ml_ald _ _⟩ ?_
  refine mb_l_cons ⟨mm_ild _ _, ml_ild _ _⟩ ?_
  refine mb_l_cons ⟨mm_new _ _ _, ml_new _ _ _⟩ ?_
  refine mb_l_cons ⟨mm_dup _, ml_dup _⟩ ?_
  refine mb_l_cons ⟨mm_calli _ _ _, ml_calli _ _ _⟩ ?_
  refine mb_l_cons ⟨mm_callv _ _ _ _ _, ml_callv _ _ _ _ _⟩ ?_
  refine mb_l_cons ⟨mm_iret, ml_iret⟩ ?_
  exact mb_l_nil
theorem mz_X5_append : ∀ pc i, mb_look mc_X5_append pc = some i → mb_Mon i ∧ mb_Le i := by
  unfold mc_X5_append
  refine mb_l_cons ⟨mm_ald _ _, ml_ald _ _⟩ ?_
  refine mb_l_cons ⟨mm_getf _ _ _, ml_getf _ _ _⟩ ?_
  refine mb_l_cons ⟨mm_push _ _, ml_push _ _⟩ ?_
  refine mb_l_cons ⟨mm_if2 _ _ _, ml_if2 _ _ _⟩ ?_
  refine mb_l_cons ⟨mm_push _ _, ml_push _ _⟩ ?_
  refine mb_l_cons ⟨mm_iret, ml_iret⟩ ?_
  refine mb_l_cons ⟨mm_ald _ _, ml_ald _ _⟩ ?_
  refine mb_l_cons ⟨mm_getf _ _ _, ml_getf _ _ _⟩ ?_
  refine mb_l_cons ⟨mm_ald _ _, ml_ald _ _⟩ ?_
  refine mb_l_cons ⟨mm_getf _ _ _, ml_getf _ _ _⟩ ?_
  refine mb_l_cons ⟨mm_ild _ _, ml_ild _ _⟩ ?_
  refine mb_l_cons ⟨mm_iast _, ml_iast _⟩ ?_
  refine mb_l_cons ⟨mm_ald _ _, ml_ald _ _⟩ ?_
  refine mb_l_cons ⟨mm_getf _ _ _, ml_getf _ _ _⟩ ?_
  refine mb_l_cons ⟨mm_ald _ _, ml_ald _ _⟩ ?_
  refine mb_l_cons ⟨mm_getf _ _ _, ml_getf _ _ _⟩ ?_
  refine mb_l_cons ⟨mm_ald _ _, ml_ald _ _⟩ ?_
  refine mb_l_cons ⟨mm_aast _ _, ml_aast _ _⟩ ?_
  refine mb_l_cons ⟨mm_ald _ _, ml_ald _ _⟩ ?_
  refine mb_l_cons ⟨mm_dup _, ml_dup _⟩ ?_
  refine mb_l_cons ⟨mm_getf _ _ _, ml_getf _ _ _⟩ ?_
  refine mb_l_cons ⟨mm_dupx1 _, ml_dupx1 _⟩ ?_
  refine mb_l_cons ⟨mm_push _ _, ml_push _ _⟩ ?_
  refine mb_l_cons ⟨mm_iadd _, ml_iadd _⟩ ?_
  refine mb_l_cons ⟨mm_putf _ _ _ _, ml_putf _ _ _ _⟩ ?_
  refine mb_l_cons ⟨mm_iret, ml_iret⟩ ?_
  exact mb_l_nil
theorem mz_X5_ownValue : ∀ pc i, mb_look mc_X5_ownValue pc = some i → mb_Mon i ∧ mb_Le i := by
  unfold mc_X5_ownValue
  refine mb_l_cons ⟨mm_ald _ _, ml_ald _ _⟩ ?_
  refine mb_l_cons ⟨mm_ild _ _, ml_ild _ _⟩ ?_
  refine mb_l_cons ⟨mm_callv _ _ _ _ _, ml_callv _ _ _ _ _⟩ ?_
  refine mb_l_cons ⟨mm_ast _ _, ml_ast _ _⟩ ?_
  refine mb_l_cons ⟨mm_ald _ _, ml_ald _ _⟩ ?_
  refine mb_l_cons ⟨mm_ifnn _ _, ml_ifnn _ _⟩ ?_
  refine mb_l_cons ⟨mm_push _ _, ml_push _ _⟩ ?_
  refine mb_l_cons ⟨mm_go _, ml_go _⟩ ?_
  refine mb_l_cons ⟨mm_ald _ _, ml_ald _ _⟩ ?_
  refine mb_l_cons ⟨mm_ild _ _, ml_ild _ _⟩ ?_
  refine mb_l_cons ⟨mm_callv _ _ _ _ _, ml_callv _ _ _ _ _⟩ ?_
  refine mb_l_cons ⟨mm_iret, ml_iret⟩ ?_
  exact mb_l_nil
theorem mz_X5_poseUpwards : ∀ pc i, mb_look mc_X5_poseUpwards pc = some i → mb_Mon i ∧ mb_Le i := by
  unfold mc_X5_poseUpwards
  refine mb_l_cons ⟨mm_push _ _, ml_push _ _⟩ ?_
  refine mb_l_cons ⟨mm_ist _ _, ml_ist _ _⟩ ?_
  refine mb_l_cons ⟨mm_ild _ _, ml_ild _ _⟩ ?_
  refine mb_l_cons ⟨mm_ist _ _, ml_ist _ _⟩ ?_
  refine mb_l_cons ⟨mm_push _ _, ml_push _ _⟩ ?_
  refine mb_l_cons ⟨mm_ist _ _, ml_ist _ _⟩ ?_
  refine mb_l_cons ⟨mm_ild _ _, ml_ild _ _⟩ ?_
  refine mb_l_cons ⟨mm_push _ _, ml_push _ _⟩ ?_
  refine mb_l_cons ⟨mm_if2 _ _ _, ml_if2 _ _ _⟩ ?_
  refine mb_l_cons ⟨mm_ald _ _, ml_ald _ _⟩ ?_
  refine mb_l_cons ⟨mm_ild _ _, ml_ild _ _⟩ ?_
  refine mb_l_cons ⟨mm_callv _ _ _ _ _, ml_callv _ _ _ _ _⟩ ?_
  refine mb_l_cons ⟨mm_if1 _ _ _, ml_if1 _ _ _⟩ ?_
  refine mb_l_cons ⟨mm_ild _ _, ml_ild _ _⟩ ?_
  refine mb_l_cons ⟨mm_ald _ _, ml_ald _ _⟩ ?_
  refine mb_l_cons ⟨mm_ild _ _, ml_ild _ _⟩ ?_
  refine mb_l_cons ⟨mm_ild _ _, ml_ild _ _⟩ ?_
  refine mb_l_cons ⟨mm_callv _ _ _ _ _, ml_callv _ _ _ _ _⟩ ?_
  refine mb_l_cons ⟨mm_iadd _, ml_iadd _⟩ ?_
  refine mb_l_cons ⟨mm_ist _ _, ml_ist _ _⟩ ?_
  refine mb_l_cons ⟨mm_ald _ _, ml_ald _ _⟩ ?_
  refine mb_l_cons ⟨mm_getf _ _ _, ml_getf _ _ _⟩ ?_
  refine mb_l_cons ⟨mm_ild _ _, ml_ild _ _⟩ ?_
  refine mb_l_cons ⟨mm_iald _, ml_iald _⟩ ?_
  refine mb_l_cons ⟨mm_ist _ _, ml_ist _ _⟩ ?_
  refine mb_l_cons ⟨mm_iinc _ _ _, ml_iinc _ _ _⟩ ?_
  refine mb_l_cons ⟨mm_go _, ml_go _⟩ ?_
  refine mb_l_cons ⟨mm_ild _ _, ml_ild _ _⟩ ?_
  refine mb_l_cons ⟨mm_iret, ml_iret⟩ ?_
  exact mb_l_nil
theorem mz_X5_poseAt : ∀ pc i, mb_look mc_X5_poseAt pc = some i → mb_Mon i ∧ mb_Le i := by
  unfold mc_X5_poseAt
  refine mb_l_cons ⟨mm_ald _ _, ml_ald _ _⟩ ?_
  refine mb_l_cons ⟨mm_getf _ _ _, ml_getf _ _ _⟩ ?_
  refine mb_l_cons ⟨mm_ifn _ _, ml_ifn _ _⟩ ?_
  refine mb_l_cons ⟨mm_ald _ _, ml_ald _ _⟩ ?_
  refine mb_l_cons ⟨mm_ild _ _, ml_ild _ _⟩ ?_
  refine mb_l_cons ⟨mm_callv _ _ _ _ _, ml_callv _ _ _ _ _⟩ ?_
  refine mb_l_cons ⟨mm_if1 _ _ _, ml_if1 _ _ _⟩ ?_
  refine mb_l_cons ⟨mm_ild _ _, ml_ild _ _⟩ ?_
  refine mb_l_cons ⟨mm_calls _ _ _, ml_calls _ _ _⟩ ?_
  refine mb_l_cons ⟨mm_if1 _ _ _, ml_if1 _ _ _⟩ ?_
  refine mb_l_cons ⟨mm_ald _ _, ml_ald _ _⟩ ?_
  refine mb_l_cons ⟨mm_ild _ _, ml_ild _ _⟩ ?_
  refine mb_l_cons ⟨mm_ild _ _, ml_ild _ _⟩ ?_
  refine mb_l_cons ⟨mm_callv _ _ _ _ _, ml_callv _ _ _ _ _⟩ ?_
  refine mb_l_cons ⟨mm_iret, ml_iret⟩ ?_
  refine mb_l_cons ⟨mm_ald _ _, ml_ald _ _⟩ ?_
  refine mb_l_cons ⟨mm_getf _ _ _, ml_getf _ _ _⟩ ?_
  refine mb_l_cons ⟨mm_ild _ _, ml_ild _ _⟩ ?_
  refine mb_l_cons ⟨mm_ald _ _, ml_ald _ _⟩ ?_
  refine mb_l_cons ⟨mm_getf _ _ _, ml_getf _ _ _⟩ ?_
  refine mb_l_cons ⟨mm_imul _, ml_imul _⟩ ?_
  refine mb_l_cons ⟨mm_ild _ _, ml_ild _ _⟩ ?_
  refine mb_l_cons ⟨mm_iadd _, ml_iadd _⟩ ?_
  refine mb_l_cons ⟨mm_iald _, ml_iald _⟩ ?_
  refine mb_l_cons ⟨mm_iret, ml_iret⟩ ?_
  exact mb_l_nil
theorem mz_X5_looksLike : ∀ pc i, mb_look mc_X5_looksLike pc = some i → mb_Mon i ∧ mb_Le i := by
  unfold mc_X5_looksLike
  refine mb_l_cons ⟨mm_ald _ _, ml_ald _ _⟩ ?_
  refine mb_l_cons ⟨mm_getf _ _ _, ml_getf _ _ _⟩ ?_
  refine mb_l_cons ⟨mm_ast _ _, ml_ast _ _⟩ ?_
  refine mb_l_cons ⟨mm_ald _ _, ml_ald _ _⟩ ?_
  refine mb_l_cons ⟨mm_getf _ _ _, ml_getf _ _ _⟩ ?_
  refine mb_l_cons ⟨mm_ifn _ _, ml_ifn _ _⟩ ?_
  refine mb_l_cons ⟨mm_ald _ _, ml_ald _ _⟩ ?_
  refine mb_l_cons ⟨mm_ifn _ _, ml_ifn _ _⟩ ?_
  refine mb_l_cons ⟨mm_ald _ _, ml_ald _ _⟩ ?_
  refine mb_l_cons ⟨mm_getf _ _ _, ml_getf _ _ _⟩ ?_
  refine mb_l_cons ⟨mm_ald _ _, ml_ald _ _⟩ ?_
  refine mb_l_cons ⟨mm_getf _ _ _, ml_getf _ _ _⟩ ?_
  refine mb_l_cons ⟨mm_if2 _ _ _, ml_if2 _ _ _⟩ ?_
  refine mb_l_cons ⟨mm_ild _ _, ml_ild _ _⟩ ?_
  refine mb_l_cons ⟨mm_calls _ _ _, ml_calls _ _ _⟩ ?_
  refine mb_l_cons ⟨mm_if1 _ _ _, ml_if1 _ _ _⟩ ?_
  refine mb_l_cons ⟨mm_push _ _, ml_push _ _⟩ ?_
  refine mb_l_cons ⟨mm_zret, ml_zret⟩ ?_
  refine mb_l_cons ⟨mm_ild _ _, ml_ild _ _⟩ ?_
  refine mb_l_cons ⟨mm_ald _ _, ml_ald _ _⟩ ?_
  refine mb_l_cons ⟨mm_getf _ _ _, ml_getf _ _ _⟩ ?_
  refine mb_l_cons ⟨mm_imul _, ml_imul _⟩ ?_
  refine mb_l_cons ⟨mm_ist _ _, ml_ist _ _⟩ ?_
  refine mb_l_cons ⟨mm_ild _ _, ml_ild _ _⟩ ?_
  refine mb_l_cons ⟨mm_ild _ _, ml_ild _ _⟩ ?_
  refine mb_l_cons ⟨mm_push _ _, ml_push _ _⟩ ?_
  refine mb_l_cons ⟨mm_iadd _, ml_iadd _⟩ ?_
  refine mb_l_cons ⟨mm_ald _ _, ml_ald _ _⟩ ?_
  refine mb_l_cons ⟨mm_getf _ _ _, ml_getf _ _ _⟩ ?_
  refine mb_l_cons ⟨mm_imul _, ml_imul _⟩ ?_
  refine mb_l_cons ⟨mm_if2 _ _ _, ml_if2 _ _ _⟩ ?_
  refine mb_l_cons ⟨mm_ald _ _, ml_ald _ _⟩ ?_
  refine mb_l_cons ⟨mm_getf _ _ _, ml_getf _ _ _⟩ ?_
  refine mb_l_cons ⟨mm_ild _ _, ml_ild _ _⟩ ?_
  refine mb_l_cons ⟨mm_iald _, ml_iald _⟩ ?_
  refine mb_l_cons ⟨mm_ald _ _, ml_ald _ _⟩ ?_
  refine mb_l_cons ⟨mm_ild _ _, ml_ild _ _⟩ ?_
  refine mb_l_cons ⟨mm_iald _, ml_iald _⟩ ?_
  refine mb_l_cons ⟨mm_if2 _ _ _, ml_if2 _ _ _⟩ ?_
  refine mb_l_cons ⟨mm_push _ _, ml_push _ _⟩ ?_
  refine mb_l_cons ⟨mm_zret, ml_zret⟩ ?_
  refine mb_l_cons ⟨mm_iinc _ _ _, ml_iinc _ _ _⟩ ?_
  refine mb_l_cons ⟨mm_go _, ml_go _⟩ ?_
  refine mb_l_cons ⟨mm_push _ _, ml_push _ _⟩ ?_
  refine mb_l_cons ⟨mm_zret, ml_zret⟩ ?_
  exact mb_l_nil
theorem mz_X5_versionOfIt : ∀ pc i, mb_look mc_X5_versionOfIt pc = some i → mb_Mon i ∧ mb_Le i := by
  unfold mc_X5_versionOfIt
  refine mb_l_cons ⟨mm_new _ _ _, ml_new _ _ _⟩ ?_
  refine mb_l_cons ⟨mm_dup _, ml_dup _⟩ ?_
  refine mb_l_cons ⟨mm_calli _ _ _, ml_calli _ _ _⟩ ?_
  refine mb_l_cons ⟨mm_ast _ _, ml_ast _ _⟩ ?_
  refine mb_l_cons ⟨mm_push _ _, ml_push _ _⟩ ?_
  refine mb_l_cons ⟨mm_ist _ _, ml_ist _ _⟩ ?_
  refine mb_l_cons ⟨mm_ild _ _, ml_ild _ _⟩ ?_
  refine mb_l_cons ⟨mm_ald _ _, ml_ald _ _⟩ ?_
  refine mb_l_cons ⟨mm_getf _ _ _, ml_getf _ _ _⟩ ?_
  refine mb_l_cons ⟨mm_if2 _ _ _, ml_if2 _ _ _⟩ ?_
  refine mb_l_cons ⟨mm_ald _ _, ml_ald _ _⟩ ?_
  refine mb_l_cons ⟨mm_ild _ _, ml_ild _ _⟩ ?_
  refine mb_l_cons ⟨mm_callv _ _ _ _ _, ml_callv _ _ _ _ _⟩ ?_
  refine mb_l_cons ⟨mm_ast _ _, ml_ast _ _⟩ ?_
  refine mb_l_cons ⟨mm_ald _ _, ml_ald _ _⟩ ?_
  refine mb_l_cons ⟨mm_ifn _ _, ml_ifn _ _⟩ ?_
  refine mb_l_cons ⟨mm_ald _ _, ml_ald _ _⟩ ?_
  refine mb_l_cons ⟨mm_ald _ _, ml_ald _ _⟩ ?_
  refine mb_l_cons ⟨mm_getf _ _ _, ml_getf _ _ _⟩ ?_
  refine mb_l_cons ⟨mm_ild _ _, ml_ild _ _⟩ ?_
  refine mb_l_cons ⟨mm_iald _, ml_iald _⟩ ?_
  refine mb_l_cons ⟨mm_ald _ _, ml_ald _ _⟩ ?_
  refine mb_l_cons ⟨mm_callv _ _ _ _ _, ml_callv _ _ _ _ _⟩ ?_
  refine mb_l_cons ⟨mm_callv _ _ _ _ _, ml_callv _ _ _ _ _⟩ ?_
  refine mb_l_cons ⟨mm_pop _, ml_pop _⟩ ?_
  refine mb_l_cons ⟨mm_iinc _ _ _, ml_iinc _ _ _⟩ ?_
  refine mb_l_cons ⟨mm_go _, ml_go _⟩ ?_
  refine mb_l_cons ⟨mm_ald _ _, ml_ald _ _⟩ ?_
  refine mb_l_cons ⟨mm_callv _ _ _ _ _, ml_callv _ _ _ _ _⟩ ?_
  refine mb_l_cons ⟨mm_ald _ _, ml_ald _ _⟩ ?_
  refine mb_l_cons ⟨mm_aret, ml_aret⟩ ?_
  exact mb_l_nil
theorem mz_X5_fixPoses : ∀ pc i, mb_look mc_X5_fixPoses pc = some i → mb_Mon i ∧ mb_Le i := by
  unfold mc_X5_fixPoses
  refine mb_l_cons ⟨mm_push _ _, ml_push _ _⟩ ?_
  refine mb_l_cons ⟨mm_ald _ _, ml_ald _ _⟩ ?_
  refine mb_l_cons ⟨mm_getf _ _ _, ml_getf _ _ _⟩ ?_
  refine mb_l_cons ⟨mm_imul _, ml_imul _⟩ ?_
  refine mb_l_cons ⟨mm_newi _, ml_newi _⟩ ?_
  refine mb_l_cons ⟨mm_ast _ _, ml_ast _ _⟩ ?_
  refine mb_l_cons ⟨mm_push _ _, ml_push _ _⟩ ?_
  refine mb_l_cons ⟨mm_ist _ _, ml_ist _ _⟩ ?_
  refine mb_l_cons ⟨mm_ild _ _, ml_ild _ _⟩ ?_
  refine mb_l_cons ⟨mm_push _ _, ml_push _ _⟩ ?_
  refine mb_l_cons ⟨mm_if2 _ _ _, ml_if2 _ _ _⟩ ?_
  refine mb_l_cons ⟨mm_ild _ _, ml_ild _ _⟩ ?_
  refine mb_l_cons ⟨mm_ald _ _, ml_ald _ _⟩ ?_
  refine mb_l_cons ⟨mm_getf _ _ _, ml_getf _ _ _⟩ ?_
  refine mb_l_cons ⟨mm_imul _, ml_imul _⟩ ?_
  refine mb_l_cons ⟨mm_ist _ _, ml_ist _ _⟩ ?_
  refine mb_l_cons ⟨mm_push _ _, ml_push _ _⟩ ?_
  refine mb_l_cons ⟨mm_ist _ _, ml_ist _ _⟩ ?_
  refine mb_l_cons ⟨mm_ild _ _, ml_ild _ _⟩ ?_
  refine mb_l_cons ⟨mm_ald _ _, ml_ald _ _⟩ ?_
  refine mb_l_cons ⟨mm_getf _ _ _, ml_getf _ _ _⟩ ?_
  refine mb_l_cons ⟨mm_if2 _ _ _, ml_if2 _ _ _⟩ ?_
  refine mb_l_cons ⟨mm_ald _ _, ml_ald _ _⟩ ?_
  refine mb_l_cons ⟨mm_getf _ _ _, ml_getf _ _ _⟩ ?_
  refine mb_l_cons ⟨mm_ild _ _, ml_ild _ _⟩ ?_
  refine mb_l_cons ⟨mm_iald _, ml_iald _⟩ ?_
  refine mb_l_cons ⟨mm_ist _ _, ml_ist _ _⟩ ?_
  refine mb_l_cons ⟨mm_ald _ _, ml_ald _ _⟩ ?_
  refine mb_l_cons ⟨mm_ild _ _, ml_ild _ _⟩ ?_
  refine mb_l_cons ⟨mm_callv _ _ _ _ _, ml_callv _ _ _ _ _⟩ ?_
  refine mb_l_cons ⟨mm_if1 _ _ _, ml_if1 _ _ _⟩ ?_
  refine mb_l_cons ⟨mm_ald _ _, ml_ald _ _⟩ ?_
  refine mb_l_cons ⟨mm_ild _ _, ml_ild _ _⟩ ?_
  refine mb_l_cons ⟨mm_ild _ _, ml_ild _ _⟩ ?_
  refine mb_l_cons ⟨mm_iadd _, ml_iadd _⟩ ?_
  refine mb_l_cons ⟨mm_iald _, ml_iald _⟩ ?_
  refine mb_l_cons ⟨mm_go _, ml_go _⟩ ?_
  refine mb_l_cons ⟨mm_push _ _, ml_push _ _⟩ ?_
  refine mb_l_cons ⟨mm_ist _ _, ml_ist _ _⟩ ?_
  refine mb_l_cons ⟨mm_ald _ _, ml_ald _ _⟩ ?_
  refine mb_l_cons ⟨mm_ild _ _, ml_ild _ _⟩ ?_
  refine mb_l_cons ⟨mm_ild _ _, ml_ild _ _⟩ ?_
  refine mb_l_cons ⟨mm_iadd _, ml_iadd _⟩ ?_
  refine mb_l_cons ⟨mm_ild _ _, ml_ild _ _⟩ ?_
  refine mb_l_cons ⟨mm_ald _ _, ml_ald _ _⟩ ?_
  refine mb_l_cons ⟨mm_ild _ _, ml_ild _ _⟩ ?_
  refine mb_l_cons ⟨mm_ild _ _, ml_ild _ _⟩ ?_
  refine mb_l_cons ⟨mm_callv _ _ _ _ _, ml_callv _ _ _ _ _⟩ ?_
  refine mb_l_cons ⟨mm_iadd _, ml_iadd _⟩ ?_
  refine mb_l_cons ⟨mm_iast _, ml_iast _⟩ ?_
  refine mb_l_cons ⟨mm_iinc _ _ _, ml_iinc _ _ _⟩ ?_
  refine mb_l_cons ⟨mm_go _, ml_go _⟩ ?_
  refine mb_l_cons ⟨mm_iinc _ _ _, ml_iinc _ _ _⟩ ?_
  refine mb_l_cons ⟨mm_go _, ml_go _⟩ ?_
  refine mb_l_cons ⟨mm_ald _ _, ml_ald _ _⟩ ?_
  refine mb_l_cons ⟨mm_ald _ _, ml_ald _ _⟩ ?_
  refine mb_l_cons ⟨mm_putf _ _ _ _, ml_putf _ _ _ _⟩ ?_
  refine mb_l_cons ⟨mm_vret, ml_vret⟩ ?_
  exact mb_l_nil
theorem mz_X6_init : ∀ pc i, mb_look mc_X6_init pc = some i → mb_Mon i ∧ mb_Le i := by
  unfold mc_X6_init
  refine mb_l_cons ⟨mm_ald _ _, ml_ald _ _⟩ ?_
  refine mb_l_cons ⟨mm_oinit _, ml_oinit _⟩ ?_
  refine mb_l_cons ⟨mm_ald _ _, ml_ald _ _⟩ ?_
  refine mb_l_cons ⟨mm_push _ _, ml_push _ _⟩ ?_
  refine mb_l_cons ⟨mm_newq _ _, ml_newq _ _⟩ ?_
  refine mb_l_cons ⟨mm_putf _ _ _ _, ml_putf _ _ _ _⟩ ?_
  refine mb_l_cons ⟨mm_ald _ _, ml_ald _ _⟩ ?_
  refine mb_l_cons ⟨mm_push _ _, ml_push _ _⟩ ?_
  refine mb_l_cons ⟨mm_newq _ _, ml_newq _ _⟩ ?_
  refine mb_l_cons ⟨mm_putf _ _ _ _, ml_putf _ _ _ _⟩ ?_
  refine mb_l_cons ⟨mm_push _ _, ml_push _ _⟩ ?_
  refine mb_l_cons ⟨mm_ist _ _, ml_ist _ _⟩ ?_
  refine mb_l_cons ⟨mm_ild _ _, ml_ild _ _⟩ ?_
  refine mb_l_cons ⟨mm_ild _ _, ml_ild _ _⟩ ?_
  refine mb_l_cons ⟨mm_if2 _ _ _, ml_if2 _ _ _⟩ ?_
  refine mb_l_cons ⟨mm_ild _ _, ml_ild _ _⟩ ?_
  refine mb_l_cons ⟨mm_push _ _, ml_push _ _⟩ ?_
  refine mb_l_cons ⟨mm_if2 _ _ _, ml_if2 _ _ _⟩ ?_
  refine mb_l_cons ⟨mm_ald _ _, ml_ald _ _⟩ ?_
  refine mb_l_cons ⟨mm_getf _ _ _, ml_getf _ _ _⟩ ?_
  refine mb_l_cons ⟨mm_ild _ _, ml_ild _ _⟩ ?_
  refine mb_l_cons ⟨mm_new _ _ _, ml_new _ _ _⟩ ?_
  refine mb_l_cons ⟨mm_dup _, ml_dup _⟩ ?_
  refine mb_l_cons ⟨mm_ild _ _, ml_ild _ _⟩ ?_
  refine mb_l_cons ⟨mm_calli _ _ _, ml_calli _ _ _⟩ ?_
  refine mb_l_cons ⟨mm_aast _ _, ml_aast _ _⟩ ?_
  refine mb_l_cons ⟨mm_ald _ _, ml_ald _ _⟩ ?_
  refine mb_l_cons ⟨mm_dup _, ml_dup _⟩ ?_
  refine mb_l_cons ⟨mm_getf _ _ _, ml_getf _ _ _⟩ ?_
  refine mb_l_cons ⟨mm_push _ _, ml_push _ _⟩ ?_
  refine mb_l_cons ⟨mm_iadd _, ml_iadd _⟩ ?_
  refine mb_l_cons ⟨mm_putf _ _ _ _, ml_putf _ _ _ _⟩ ?_
  refine mb_l_cons ⟨mm_iinc _ _ _, ml_iinc _ _ _⟩ ?_
  refine mb_l_cons ⟨mm_go _, ml_go _⟩ ?_
  refine mb_l_cons ⟨mm_vret, ml_vret⟩ ?_
  exact mb_l_nil
theorem mz_X6_hasFrame : ∀ pc i, mb_look mc_X6_hasFrame pc = some i → mb_Mon i ∧ mb_Le i := by
  unfold mc_X6_hasFrame
  refine mb_l_cons ⟨mm_ild _ _, ml_ild _ _⟩ ?_
  refine mb_l_cons ⟨mm_if1 _ _ _, ml_if1 _ _ _⟩ ?_
  refine mb_l_cons ⟨mm_ild _ _, ml_ild _ _⟩ ?_
  refine mb_l_cons ⟨mm_ald _ _, ml_ald _ _⟩ ?_
  refine mb_l_cons ⟨mm_getf _ _ _, ml_getf _ _ _⟩ ?_
  refine mb_l_cons ⟨mm_if2 _ _ _, ml_if2 _ _ _⟩ ?_
  refine mb_l_cons ⟨mm_push _ _, ml_push _ _⟩ ?_
  refine mb_l_cons ⟨mm_go _, ml_go _⟩ ?_
  refine mb_l_cons ⟨mm_push _ _, ml_push _ _⟩ ?_
  refine mb_l_cons ⟨mm_zret, ml_zret⟩ ?_
  exact mb_l_nil
theorem mz_X6_frameAt : ∀ pc i, mb_look mc_X6_frameAt pc = some i → mb_Mon i ∧ mb_Le i := by
  unfold mc_X6_frameAt
  refine mb_l_cons ⟨mm_ald _ _, ml_ald _ _⟩ ?_
  refine mb_l_cons ⟨mm_ild _ _, ml_ild _ _⟩ ?_
  refine mb_l_cons ⟨mm_callv _ _ _ _ _, ml_callv _ _ _ _ _⟩ ?_
  refine mb_l_cons ⟨mm_if1 _ _ _, ml_if1 _ _ _⟩ ?_
  refine mb_l_cons ⟨mm_ald _ _, ml_ald _ _⟩ ?_
  refine mb_l_cons ⟨mm_getf _ _ _, ml_getf _ _ _⟩ ?_
  refine mb_l_cons ⟨mm_ild _ _, ml_ild _ _⟩ ?_
  refine mb_l_cons ⟨mm_aald _, ml_aald _⟩ ?_
  refine mb_l_cons ⟨mm_go _, ml_go _⟩ ?_
  refine mb_l_cons ⟨mm_push _ _, ml_push _ _⟩ ?_
  refine mb_l_cons ⟨mm_aret, ml_aret⟩ ?_
  exact mb_l_nil
theorem mz_X6_castingOf : ∀ pc i, mb_look mc_X6_castingOf pc = some i → mb_Mon i ∧ mb_Le i := by
  unfold mc_X6_castingOf
  refine mb_l_cons ⟨mm_ild _ _, ml_ild _ _⟩ ?_
  refine mb_l_cons ⟨mm_if1 _ _ _, ml_if1 _ _ _⟩ ?_
  refine mb_l_cons ⟨mm_ild _ _, ml_ild _ _⟩ ?_
  refine mb_l_cons ⟨mm_push _ _, ml_push _ _⟩ ?_
  refine mb_l_cons ⟨mm_if2 _ _ _, ml_if2 _ _ _⟩ ?_
  refine mb_l_cons ⟨mm_push _ _, ml_push _ _⟩ ?_
  refine mb_l_cons ⟨mm_go _, ml_go _⟩ ?_
  refine mb_l_cons ⟨mm_ald _ _, ml_ald _ _⟩ ?_
  refine mb_l_cons ⟨mm_getf _ _ _, ml_getf _ _ _⟩ ?_
  refine mb_l_cons ⟨mm_ild _ _, ml_ild _ _⟩ ?_
  refine mb_l_cons ⟨mm_aald _, ml_aald _⟩ ?_
  refine mb_l_cons ⟨mm_aret, ml_aret⟩ ?_
  exact mb_l_nil
theorem mz_X6_setCasting : ∀ pc i, mb_look mc_X6_setCasting pc = some i → mb_Mon i ∧ mb_Le i := by
  unfold mc_X6_setCasting
  refine mb_l_cons ⟨mm_ild _ _, ml_ild _ _⟩ ?_
  refine mb_l_cons ⟨mm_if1 _ _ _, ml_if1 _ _ _⟩ ?_
  refine mb_l_cons ⟨mm_ild _ _, ml_ild _ _⟩ ?_
  refine mb_l_cons ⟨mm_push _ _, ml_push _ _⟩ ?_
  refine mb_l_cons ⟨mm_if2 _ _ _, ml_if2 _ _ _⟩ ?_
  refine mb_l_cons ⟨mm_vret, ml_vret⟩ ?_
  refine mb_l_cons ⟨mm_ald _ _, ml_ald _ _⟩ ?_
  refine mb_l_cons ⟨mm_getf _ _ _, ml_getf _ _ _⟩ ?_
  refine mb_l_cons ⟨mm_ild _ _, ml_ild _ _⟩ ?_
  refine mb_l_cons ⟨mm_aald _, ml_aald _⟩ ?_
  refine mb_l_cons ⟨mm_ast _ _, ml_ast _ _⟩ ?_
  refine mb_l_cons ⟨mm_ald _ _, ml_ald _ _⟩ ?_
  refine mb_l_cons ⟨mm_ifnn _ _, ml_ifnn _ _⟩ ?_
  refine mb_l_cons ⟨mm_new _ _ _, ml_new _ _ _⟩ ?_
  refine mb_l_cons ⟨mm_dup _, ml_dup _⟩ ?_
  refine mb_l_cons ⟨mm_calli _ _ _, ml_calli _ _ _⟩ ?_
  refine mb_l_cons ⟨mm_ast _ _, ml_ast _ _⟩ ?_
  refine mb_l_cons ⟨mm_ald _ _, ml_ald _ _⟩ ?_
  refine mb_l_cons ⟨mm_getf _ _ _, ml_getf _ _ _⟩ ?_
  refine mb_l_cons ⟨mm_ild _ _, ml_ild _ _⟩ ?_
  refine mb_l_cons ⟨mm_ald _ _, ml_ald _ _⟩ ?_
  refine mb_l_cons ⟨mm_aast _ _, ml_aast _ _⟩ ?_
  refine mb_l_cons ⟨mm_ald _ _, ml_ald _ _⟩ ?_
  refine mb_l_cons ⟨mm_dup _, ml_dup _⟩ ?_
  refine mb_l_cons ⟨mm_getf _ _ _, ml_getf _ _ _⟩ ?_
  refine mb_l_cons ⟨mm_push _ _, ml_push _ _⟩ ?_
  refine mb_l_cons ⟨mm_iadd _, ml_iadd _⟩ ?_
  refine mb_l_cons ⟨mm_putf _ _ _ _, ml_putf _ _ _ _⟩ ?_
  refine mb_l_cons ⟨mm_ald _ _, ml_ald _ _⟩ ?_
  refine mb_l_cons ⟨mm_ild _ _, ml_ild _ _⟩ ?_
  refine mb_l_cons ⟨mm_putf _ _ _ _, ml_putf _ _ _ _⟩ ?_
  refine mb_l_cons ⟨mm_ald _ _, ml_ald _ _⟩ ?_
  refine mb_l_cons ⟨mm_ild _ _, ml_ild _ _⟩ ?_
  refine mb_l_cons ⟨mm_putf _ _ _ _, ml_putf _ _ _ _⟩ ?_
  refine mb_l_cons ⟨mm_ald _ _, ml_ald _ _⟩ ?_
  refine mb_l_cons ⟨mm_ild _ _, ml_ild _ _⟩ ?_
  refine mb_l_cons ⟨mm_putf _ _ _ _, ml_putf _ _ _ _⟩ ?_
  refine mb_l_cons ⟨mm_vret, ml_vret⟩ ?_
  exact mb_l_nil
theorem mz_X6_removeFrames : ∀ pc i, mb_look mc_X6_removeFrames pc = some i → mb_Mon i ∧ mb_Le i := by
  unfold mc_X6_removeFrames
  refine mb_l_cons ⟨mm_ald _ _, ml_ald _ _⟩ ?_
  refine mb_l_cons ⟨mm_ild _ _, ml_ild _ _⟩ ?_
  refine mb_l_cons ⟨mm_callv _ _ _ _ _, ml_callv _ _ _ _ _⟩ ?_
  refine mb_l_cons ⟨mm_if1 _ _ _, ml_if1 _ _ _⟩ ?_
  refine mb_l_cons ⟨mm_ild _ _, ml_ild _ _⟩ ?_
  refine mb_l_cons ⟨mm_push _ _, ml_push _ _⟩ ?_
  refine mb_l_cons ⟨mm_if2 _ _ _, ml_if2 _ _ _⟩ ?_
  refine mb_l_cons ⟨mm_ild _ _, ml_ild _ _⟩ ?_
  refine mb_l_cons ⟨mm_ald _ _, ml_ald _ _⟩ ?_
  refine mb_l_cons ⟨mm_getf _ _ _, ml_getf _ _ _⟩ ?_
  refine mb_l_cons ⟨mm_ild _ _, ml_ild _ _⟩ ?_
  refine mb_l_cons ⟨mm_isub _, ml_isub _⟩ ?_
  refine mb_l_cons ⟨mm_if2 _ _ _, ml_if2 _ _ _⟩ ?_
  refine mb_l_cons ⟨mm_vret, ml_vret⟩ ?_
  refine mb_l_cons ⟨mm_ild _ _, ml_ild _ _⟩ ?_
  refine mb_l_cons ⟨mm_ist _ _, ml_ist _ _⟩ ?_
  refine mb_l_cons ⟨mm_ild _ _, ml_ild _ _⟩ ?_
  refine mb_l_cons ⟨mm_ild _ _, ml_ild _ _⟩ ?_
  refine mb_l_cons ⟨mm_iadd _, ml_iadd _⟩ ?_
  refine mb_l_cons ⟨mm_ald _ _, ml_ald _ _⟩ ?_
  refine mb_l_cons ⟨mm_getf _ _ _, ml_getf _ _ _⟩ ?_
  refine mb_l_cons ⟨mm_if2 _ _ _, ml_if2 _ _ _⟩ ?_
  refine mb_l_cons ⟨mm_ald _ _, ml_ald _ _⟩ ?_
  refine mb_l_cons ⟨mm_getf _ _ _, ml_getf _ _ _⟩ ?_
  refine mb_l_cons ⟨mm_ild _ _, ml_ild _ _⟩ ?_
  refine mb_l_cons ⟨mm_ald _ _, ml_ald _ _⟩ ?_
  refine mb_l_cons ⟨mm_getf _ _ _, ml_getf _ _ _⟩ ?_
  refine mb_l_cons ⟨mm_ild _ _, ml_ild _ _⟩ ?_
  refine mb_l_cons ⟨mm_ild _ _, ml_ild _ _⟩ ?_
  refine mb_l_cons ⟨mm_iadd _, ml_iadd _⟩ ?_
  refine mb_l_cons ⟨mm_aald _, ml_aald _⟩ ?_
  refine mb_l_cons ⟨mm_aast _ _, ml_aast _ _⟩ ?_
  refine mb_l_cons ⟨mm_iinc _ _ _, ml_iinc _ _ _⟩ ?_
  refine mb_l_cons ⟨mm_go _, ml_go _⟩ ?_
  refine mb_l_cons ⟨mm_ald _ _, ml_ald _ _⟩ ?_
  refine mb_l_cons ⟨mm_dup _, ml_dup _⟩ ?_
  refine mb_l_cons ⟨mm_getf _ _ _, ml_getf _ _ _⟩ ?_
  refine mb_l_cons ⟨mm_ild _ _, ml_ild _ _⟩ ?_
  refine mb_l_cons ⟨mm_isub _, ml_isub _⟩ ?_
  refine mb_l_cons ⟨mm_putf _ _ _ _, ml_putf _ _ _ _⟩ ?_
  refine mb_l_cons ⟨mm_vret, ml_vret⟩ ?_
  exact mb_l_nil
theorem mz_X6_follows : ∀ pc i, mb_look mc_X6_follows pc = some i → mb_Mon i ∧ mb_Le i := by
  unfold mc_X6_follows
  refine mb_l_cons ⟨mm_ald _ _, ml_ald _ _⟩ ?_
  refine mb_l_cons ⟨mm_ild _ _, ml_ild _ _⟩ ?_
  refine mb_l_cons ⟨mm_callv _ _ _ _ _, ml_callv _ _ _ _ _⟩ ?_
  refine mb_l_cons ⟨mm_ast _ _, ml_ast _ _⟩ ?_
  refine mb_l_cons ⟨mm_ald _ _, ml_ald _ _⟩ ?_
  refine mb_l_cons ⟨mm_ifn _ _, ml_ifn _ _⟩ ?_
  refine mb_l_cons ⟨mm_ald _ _, ml_ald _ _⟩ ?_
  refine mb_l_cons ⟨mm_getf _ _ _, ml_getf _ _ _⟩ ?_
  refine mb_l_cons ⟨mm_push _ _, ml_push _ _⟩ ?_
  refine mb_l_cons ⟨mm_if2 _ _ _, ml_if2 _ _ _⟩ ?_
  refine mb_l_cons ⟨mm_push _ _, ml_push _ _⟩ ?_
  refine mb_l_cons ⟨mm_go _, ml_go _⟩ ?_
  refine mb_l_cons ⟨mm_push _ _, ml_push _ _⟩ ?_
  refine mb_l_cons ⟨mm_zret, ml_zret⟩ ?_
  exact mb_l_nil
theorem mz_X6_keepsUnlikeVersions : ∀ pc i, mb_look mc_X6_keepsUnlikeVersions pc = some i → mb_Mon i ∧ mb_Le i := by
  unfold mc_X6_keepsUnlikeVersions
  refine mb_l_cons ⟨mm_push _ _, ml_push _ _⟩ ?_
  refine mb_l_cons ⟨mm_ist _ _, ml_ist _ _⟩ ?_
  refine mb_l_cons ⟨mm_push _ _, ml_push _ _⟩ ?_
  refine mb_l_cons ⟨mm_ist _ _, ml_ist _ _⟩ ?_
  refine mb_l_cons ⟨mm_ild _ _, ml_ild _ _⟩ ?_
  refine mb_l_cons ⟨mm_ald _ _, ml_ald _ _⟩ ?_
  refine mb_l_cons ⟨mm_getf _ _ _, ml_getf _ _ _⟩ ?_
  refine mb_l_cons ⟨mm_if2 _ _ _, ml_if2 _ _ _⟩ ?_
  refine mb_l_cons ⟨mm_ald _ _, ml_ald _ _⟩ ?_
  refine mb_l_cons ⟨mm_ild _ _, ml_ild _ _⟩ ?_
  refine mb_l_cons ⟨mm_callv _ _ _ _ _, ml_callv _ _ _ _ _⟩ ?_
  refine mb_l_cons ⟨mm_ast _ _, ml_ast _ _⟩ ?_
  refine mb_l_cons ⟨mm_ald _ _, ml_ald _ _⟩ ?_
  refine mb_l_cons ⟨mm_ifnn _ _, ml_ifnn _ _⟩ ?_
  refine mb_l_cons ⟨mm_push _ _, ml_push _ _⟩ ?_
  refine mb_l_cons ⟨mm_go _, ml_go _⟩ ?_
  refine mb_l_cons ⟨mm_ald _ _, ml_ald _ _⟩ ?_
  refine mb_l_cons ⟨mm_ild _ _, ml_ild _ _⟩ ?_
  refine mb_l_cons ⟨mm_callv _ _ _ _ _, ml_callv _ _ _ _ _⟩ ?_
  refine mb_l_cons ⟨mm_ist _ _, ml_ist _ _⟩ ?_
  refine mb_l_cons ⟨mm_ild _ _, ml_ild _ _⟩ ?_
  refine mb_l_cons ⟨mm_push _ _, ml_push _ _⟩ ?_
  refine mb_l_cons ⟨mm_if2 _ _ _, ml_if2 _ _ _⟩ ?_
  refine mb_l_cons ⟨mm_ild _ _, ml_ild _ _⟩ ?_
  refine mb_l_cons ⟨mm_ist _ _, ml_ist _ _⟩ ?_
  refine mb_l_cons ⟨mm_go _, ml_go _⟩ ?_
  refine mb_l_cons ⟨mm_ild _ _, ml_ild _ _⟩ ?_
  refine mb_l_cons ⟨mm_push _ _, ml_push _ _⟩ ?_
  refine mb_l_cons ⟨mm_if2 _ _ _, ml_if2 _ _ _⟩ ?_
  refine mb_l_cons ⟨mm_ild _ _, ml_ild _ _⟩ ?_
  refine mb_l_cons ⟨mm_ild _ _, ml_ild _ _⟩ ?_
  refine mb_l_cons ⟨mm_if2 _ _ _, ml_if2 _ _ _⟩ ?_
  refine mb_l_cons ⟨mm_push _ _, ml_push _ _⟩ ?_
  refine mb_l_cons ⟨mm_zret, ml_zret⟩ ?_
  refine mb_l_cons ⟨mm_iinc _ _ _, ml_iinc _ _ _⟩ ?_
  refine mb_l_cons ⟨mm_go _, ml_go _⟩ ?_
  refine mb_l_cons ⟨mm_push _ _, ml_push _ _⟩ ?_
  refine mb_l_cons ⟨mm_zret, ml_zret⟩ ?_
  exact mb_l_nil
theorem mz_X7_init : ∀ pc i, mb_look mc_X7_init pc = some i → mb_Mon i ∧ mb_Le i := by
  unfold mc_X7_init
  refine mb_l_cons ⟨mm_ald _ _, ml_ald _ _⟩ ?_
  refine mb_l_cons ⟨mm_oinit _, ml_oinit _⟩ ?_
  refine mb_l_cons ⟨mm_ald _ _, ml_ald _ _⟩ ?_
  refine mb_l_cons ⟨mm_push _ _, ml_push _ _⟩ ?_
  refine mb_l_cons ⟨mm_newq _ _, ml_newq _ _⟩ ?_
  refine mb_l_cons ⟨mm_putf _ _ _ _, ml_putf _ _ _ _⟩ ?_
  refine mb_l_cons ⟨mm_ald _ _, ml_ald _ _⟩ ?_
  refine mb_l_cons ⟨mm_push _ _, ml_push _ _⟩ ?_
  refine mb_l_cons ⟨mm_newq _ _, ml_newq _ _⟩ ?_
  refine mb_l_cons ⟨mm_putf _ _ _ _, ml_putf _ _ _ _⟩ ?_
  refine mb_l_cons ⟨mm_ald _ _, ml_ald _ _⟩ ?_
  refine mb_l_cons ⟨mm_push _ _, ml_push _ _⟩ ?_
  refine mb_l_cons ⟨mm_newq _ _, ml_newq _ _⟩ ?_
  refine mb_l_cons ⟨mm_putf _ _ _ _, ml_putf _ _ _ _⟩ ?_
  refine mb_l_cons ⟨mm_vret, ml_vret⟩ ?_
  exact mb_l_nil
theorem mz_X7_asset : ∀ pc i, mb_look mc_X7_asset pc = some i → mb_Mon i ∧ mb_Le i := by
  unfold mc_X7_asset
  refine mb_l_cons ⟨mm_ald _ _, ml_ald _ _⟩ ?_
  refine mb_l_cons ⟨mm_getf _ _ _, ml_getf _ _ _⟩ ?_
  refine mb_l_cons ⟨mm_push _ _, ml_push _ _⟩ ?_
  refine mb_l_cons ⟨mm_if2 _ _ _, ml_if2 _ _ _⟩ ?_
  refine mb_l_cons ⟨mm_thr _, ml_thr _⟩ ?_
  refine mb_l_cons ⟨mm_ald _ _, ml_ald _ _⟩ ?_
  refine mb_l_cons ⟨mm_getf _ _ _, ml_getf _ _ _⟩ ?_
  refine mb_l_cons ⟨mm_ald _ _, ml_ald _ _⟩ ?_
  refine mb_l_cons ⟨mm_getf _ _ _, ml_getf _ _ _⟩ ?_
  refine mb_l_cons ⟨mm_new _ _ _, ml_new _ _ _⟩ ?_
  refine mb_l_cons ⟨mm_dup _, ml_dup _⟩ ?_
  refine mb_l_cons ⟨mm_calli _ _ _, ml_calli _ _ _⟩ ?_
  refine mb_l_cons ⟨mm_aast _ _, ml_aast _ _⟩ ?_
  refine mb_l_cons ⟨mm_ald _ _, ml_ald _ _⟩ ?_
  refine mb_l_cons ⟨mm_dup _, ml_dup _⟩ ?_
  refine mb_l_cons ⟨mm_getf _ _ _, ml_getf _ _ _⟩ ?_
  refine mb_l_cons ⟨mm_dupx1 _, ml_dupx1 _⟩ ?_
  refine mb_l_cons ⟨mm_push _ _, ml_push _ _⟩ ?_
  refine mb_l_cons ⟨mm_iadd _, ml_iadd _⟩ ?_
  refine mb_l_cons ⟨mm_putf _ _ _ _, ml_putf _ _ _ _⟩ ?_
  refine mb_l_cons ⟨mm_iret, ml_iret⟩ ?_
  exact mb_l_nil
theorem mz_X7_bone : ∀ pc i, mb_look mc_X7_bone pc = some i → mb_Mon i ∧ mb_Le i := by
  unfold mc_X7_bone
  refine mb_l_cons ⟨mm_ald _ _, ml_ald _ _⟩ ?_
  refine mb_l_cons ⟨mm_ild _ _, ml_ild _ _⟩ ?_
  refine mb_l_cons ⟨mm_callv _ _ _ _ _, ml_callv _ _ _ _ _⟩ ?_
  refine mb_l_cons ⟨mm_ast _ _, ml_ast _ _⟩ ?_
  refine mb_l_cons ⟨mm_ald _ _, ml_ald _ _⟩ ?_
  refine mb_l_cons ⟨mm_ifn _ _, ml_ifn _ _⟩ ?_
  refine mb_l_cons ⟨mm_ild _ _, ml_ild _ _⟩ ?_
  refine mb_l_cons ⟨mm_push _ _, ml_push _ _⟩ ?_
  refine mb_l_cons ⟨mm_if2 _ _ _, ml_if2 _ _ _⟩ ?_
  refine mb_l_cons ⟨mm_ald _ _, ml_ald _ _⟩ ?_
  refine mb_l_cons ⟨mm_getf _ _ _, ml_getf _ _ _⟩ ?_
  refine mb_l_cons ⟨mm_ild _ _, ml_ild _ _⟩ ?_
  refine mb_l_cons ⟨mm_callv _ _ _ _ _, ml_callv _ _ _ _ _⟩ ?_
  refine mb_l_cons ⟨mm_if1 _ _ _, ml_if1 _ _ _⟩ ?_
  refine mb_l_cons ⟨mm_thr _, ml_thr _⟩ ?_
  refine mb_l_cons ⟨mm_ald _ _, ml_ald _ _⟩ ?_
  refine mb_l_cons ⟨mm_getf _ _ _, ml_getf _ _ _⟩ ?_
  refine mb_l_cons ⟨mm_getf _ _ _, ml_getf _ _ _⟩ ?_
  refine mb_l_cons ⟨mm_push _ _, ml_push _ _⟩ ?_
  refine mb_l_cons ⟨mm_if2 _ _ _, ml_if2 _ _ _⟩ ?_
  refine mb_l_cons ⟨mm_thr _, ml_thr _⟩ ?_
  refine mb_l_cons ⟨mm_ald _ _, ml_ald _ _⟩ ?_
  refine mb_l_cons ⟨mm_getf _ _ _, ml_getf _ _ _⟩ ?_
  refine mb_l_cons ⟨mm_ild _ _, ml_ild _ _⟩ ?_
  refine mb_l_cons ⟨mm_callv _ _ _ _ _, ml_callv _ _ _ _ _⟩ ?_
  refine mb_l_cons ⟨mm_iret, ml_iret⟩ ?_
  exact mb_l_nil
theorem mz_X7_key : ∀ pc i, mb_look mc_X7_key pc = some i → mb_Mon i ∧ mb_Le i := by
  unfold mc_X7_key
  refine mb_l_cons ⟨mm_ald _ _, ml_ald _ _⟩ ?_
  refine mb_l_cons ⟨mm_ild _ _, ml_ild _ _⟩ ?_
  refine mb_l_cons ⟨mm_ild _ _, ml_ild _ _⟩ ?_
  refine mb_l_cons ⟨mm_callv _ _ _ _ _, ml_callv _ _ _ _ _⟩ ?_
  refine mb_l_cons ⟨mm_ast _ _, ml_ast _ _⟩ ?_
  refine mb_l_cons ⟨mm_ald _ _, ml_ald _ _⟩ ?_
  refine mb_l_cons ⟨mm_ifnn _ _, ml_ifnn _ _⟩ ?_
  refine mb_l_cons ⟨mm_thr _, ml_thr _⟩ ?_
  refine mb_l_cons ⟨mm_ild _ _, ml_ild _ _⟩ ?_
  refine mb_l_cons ⟨mm_calls _ _ _, ml_calls _ _ _⟩ ?_
  refine mb_l_cons ⟨mm_if1 _ _ _, ml_if1 _ _ _⟩ ?_
  refine mb_l_cons ⟨mm_ild _ _, ml_ild _ _⟩ ?_
  refine mb_l_cons ⟨mm_push _ _, ml_push _ _⟩ ?_
  refine mb_l_cons ⟨mm_if2 _ _ _, ml_if2 _ _ _⟩ ?_
  refine mb_l_cons ⟨mm_ild _ _, ml_ild _ _⟩ ?_
  refine mb_l_cons ⟨mm_push _ _, ml_push _ _⟩ ?_
  refine mb_l_cons ⟨mm_if2 _ _ _, ml_if2 _ _ _⟩ ?_
  refine mb_l_cons ⟨mm_ild _ _, ml_ild _ _⟩ ?_
  refine mb_l_cons ⟨mm_if1 _ _ _, ml_if1 _ _ _⟩ ?_
  refine mb_l_cons ⟨mm_ild _ _, ml_ild _ _⟩ ?_
  refine mb_l_cons ⟨mm_push _ _, ml_push _ _⟩ ?_
  refine mb_l_cons ⟨mm_if2 _ _ _, ml_if2 _ _ _⟩ ?_
  refine mb_l_cons ⟨mm_thr _, ml_thr _⟩ ?_
  refine mb_l_cons ⟨mm_ald _ _, ml_ald _ _⟩ ?_
  refine mb_l_cons ⟨mm_ild _ _, ml_ild _ _⟩ ?_
  refine mb_l_cons ⟨mm_callv _ _ _ _ _, ml_callv _ _ _ _ _⟩ ?_
  refine mb_l_cons ⟨mm_if1 _ _ _, ml_if1 _ _ _⟩ ?_
  refine mb_l_cons ⟨mm_thr _, ml_thr _⟩ ?_
  refine mb_l_cons ⟨mm_ald _ _, ml_ald _ _⟩ ?_
  refine mb_l_cons ⟨mm_ild _ _, ml_ild _ _⟩ ?_
  refine mb_l_cons ⟨mm_ild _ _, ml_ild _ _⟩ ?_
  refine mb_l_cons ⟨mm_ild _ _, ml_ild _ _⟩ ?_
  refine mb_l_cons ⟨mm_callv _ _ _ _ _, ml_callv _ _ _ _ _⟩ ?_
  refine mb_l_cons ⟨mm_ald _ _, ml_ald _ _⟩ ?_
  refine mb_l_cons ⟨mm_getf _ _ _, ml_getf _ _ _⟩ ?_
  refine mb_l_cons ⟨mm_iret, ml_iret⟩ ?_
  exact mb_l_nil
theorem mz_X7_unkey : ∀ pc i, mb_look mc_X7_unkey pc = some i → mb_Mon i ∧ mb_Le i := by
  unfold mc_X7_unkey
  refine mb_l_cons ⟨mm_ald _ _, ml_ald _ _⟩ ?_
  refine mb_l_cons ⟨mm_ild _ _, ml_ild _ _⟩ ?_
  refine mb_l_cons ⟨mm_ild _ _, ml_ild _ _⟩ ?_
  refine mb_l_cons ⟨mm_callv _ _ _ _ _, ml_callv _ _ _ _ _⟩ ?_
  refine mb_l_cons ⟨mm_ast _ _, ml_ast _ _⟩ ?_
  refine mb_l_cons ⟨mm_ald _ _, ml_ald _ _⟩ ?_
  refine mb_l_cons ⟨mm_ifnn _ _, ml_ifnn _ _⟩ ?_
  refine mb_l_cons ⟨mm_thr _, ml_thr _⟩ ?_
  refine mb_l_cons ⟨mm_ild _ _, ml_ild _ _⟩ ?_
  refine mb_l_cons ⟨mm_calls _ _ _, ml_calls _ _ _⟩ ?_
  refine mb_l_cons ⟨mm_if1 _ _ _, ml_if1 _ _ _⟩ ?_
  refine mb_l_cons ⟨mm_thr _, ml_thr _⟩ ?_
  refine mb_l_cons ⟨mm_ald _ _, ml_ald _ _⟩ ?_
  refine mb_l_cons ⟨mm_ild _ _, ml_ild _ _⟩ ?_
  refine mb_l_cons ⟨mm_callv _ _ _ _ _, ml_callv _ _ _ _ _⟩ ?_
  refine mb_l_cons ⟨mm_zret, ml_zret⟩ ?_
  exact mb_l_nil
theorem mz_X7_publish : ∀ pc i, mb_look mc_X7_publish pc = some i → mb_Mon i ∧ mb_Le i := by
  unfold mc_X7_publish
  refine mb_l_cons ⟨mm_ald _ _, ml_ald _ _⟩ ?_
  refine mb_l_cons ⟨mm_ild _ _, ml_ild _ _⟩ ?_
  refine mb_l_cons ⟨mm_callv _ _ _ _ _, ml_callv _ _ _ _ _⟩ ?_
  refine mb_l_cons ⟨mm_ast _ _, ml_ast _ _⟩ ?_
  refine mb_l_cons ⟨mm_ald _ _, ml_ald _ _⟩ ?_
  refine mb_l_cons ⟨mm_ifnn _ _, ml_ifnn _ _⟩ ?_
  refine mb_l_cons ⟨mm_thr _, ml_thr _⟩ ?_
  refine mb_l_cons ⟨mm_ald _ _, ml_ald _ _⟩ ?_
  refine mb_l_cons ⟨mm_getf _ _ _, ml_getf _ _ _⟩ ?_
  refine mb_l_cons ⟨mm_push _ _, ml_push _ _⟩ ?_
  refine mb_l_cons ⟨mm_if2 _ _ _, ml_if2 _ _ _⟩ ?_
  refine mb_l_cons ⟨mm_ald _ _, ml_ald _ _⟩ ?_
  refine mb_l_cons ⟨mm_getf _ _ _, ml_getf _ _ _⟩ ?_
  refine mb_l_cons ⟨mm_getf _ _ _, ml_getf _ _ _⟩ ?_
  refine mb_l_cons ⟨mm_if1 _ _ _, ml_if1 _ _ _⟩ ?_
  refine mb_l_cons ⟨mm_thr _, ml_thr _⟩ ?_
  refine mb_l_cons ⟨mm_ald _ _, ml_ald _ _⟩ ?_
  refine mb_l_cons ⟨mm_callv _ _ _ _ _, ml_callv _ _ _ _ _⟩ ?_
  refine mb_l_cons ⟨mm_iret, ml_iret⟩ ?_
  exact mb_l_nil
theorem mz_X7_pose : ∀ pc i, mb_look mc_X7_pose pc = some i → mb_Mon i ∧ mb_Le i := by
  unfold mc_X7_pose
  refine mb_l_cons ⟨mm_ald _ _, ml_ald _ _⟩ ?_
  refine mb_l_cons ⟨mm_ild _ _, ml_ild _ _⟩ ?_
  refine mb_l_cons ⟨mm_ild _ _, ml_ild _ _⟩ ?_
  refine mb_l_cons ⟨mm_callv _ _ _ _ _, ml_callv _ _ _ _ _⟩ ?_
  refine mb_l_cons ⟨mm_ast _ _, ml_ast _ _⟩ ?_
  refine mb_l_cons ⟨mm_ald _ _, ml_ald _ _⟩ ?_
  refine mb_l_cons ⟨mm_ifn _ _, ml_ifn _ _⟩ ?_
  refine mb_l_cons ⟨mm_ald _ _, ml_ald _ _⟩ ?_
  refine mb_l_cons ⟨mm_ild _ _, ml_ild _ _⟩ ?_
  refine mb_l_cons ⟨mm_callv _ _ _ _ _, ml_callv _ _ _ _ _⟩ ?_
  refine mb_l_cons ⟨mm_if1 _ _ _, ml_if1 _ _ _⟩ ?_
  refine mb_l_cons ⟨mm_thr _, ml_thr _⟩ ?_
  refine mb_l_cons ⟨mm_ild _ _, ml_ild _ _⟩ ?_
  refine mb_l_cons ⟨mm_calls _ _ _, ml_calls _ _ _⟩ ?_
  refine mb_l_cons ⟨mm_if1 _ _ _, ml_if1 _ _ _⟩ ?_
  refine mb_l_cons ⟨mm_thr _, ml_thr _⟩ ?_
  refine mb_l_cons ⟨mm_ald _ _, ml_ald _ _⟩ ?_
  refine mb_l_cons ⟨mm_ild _ _, ml_ild _ _⟩ ?_
  refine mb_l_cons ⟨mm_ild _ _, ml_ild _ _⟩ ?_
  refine mb_l_cons ⟨mm_callv _ _ _ _ _, ml_callv _ _ _ _ _⟩ ?_
  refine mb_l_cons ⟨mm_iret, ml_iret⟩ ?_
  exact mb_l_nil
theorem mz_X7_poseAnew : ∀ pc i, mb_look mc_X7_poseAnew pc = some i → mb_Mon i ∧ mb_Le i := by
  unfold mc_X7_poseAnew
  refine mb_l_cons ⟨mm_ald _ _, ml_ald _ _⟩ ?_
  refine mb_l_cons ⟨mm_ild _ _, ml_ild _ _⟩ ?_
  refine mb_l_cons ⟨mm_ild _ _, ml_ild _ _⟩ ?_
  refine mb_l_cons ⟨mm_callv _ _ _ _ _, ml_callv _ _ _ _ _⟩ ?_
  refine mb_l_cons ⟨mm_ast _ _, ml_ast _ _⟩ ?_
  refine mb_l_cons ⟨mm_ald _ _, ml_ald _ _⟩ ?_
  refine mb_l_cons ⟨mm_ifn _ _, ml_ifn _ _⟩ ?_
  refine mb_l_cons ⟨mm_ald _ _, ml_ald _ _⟩ ?_
  refine mb_l_cons ⟨mm_ild _ _, ml_ild _ _⟩ ?_
  refine mb_l_cons ⟨mm_callv _ _ _ _ _, ml_callv _ _ _ _ _⟩ ?_
  refine mb_l_cons ⟨mm_if1 _ _ _, ml_if1 _ _ _⟩ ?_
  refine mb_l_cons ⟨mm_thr _, ml_thr _⟩ ?_
  refine mb_l_cons ⟨mm_ild _ _, ml_ild _ _⟩ ?_
  refine mb_l_cons ⟨mm_calls _ _ _, ml_calls _ _ _⟩ ?_
  refine mb_l_cons ⟨mm_if1 _ _ _, ml_if1 _ _ _⟩ ?_
  refine mb_l_cons ⟨mm_thr _, ml_thr _⟩ ?_
  refine mb_l_cons ⟨mm_ald _ _, ml_ald _ _⟩ ?_
  refine mb_l_cons ⟨mm_ild _ _, ml_ild _ _⟩ ?_
  refine mb_l_cons ⟨mm_ild _ _, ml_ild _ _⟩ ?_
  refine mb_l_cons ⟨mm_callv _ _ _ _ _, ml_callv _ _ _ _ _⟩ ?_
  refine mb_l_cons ⟨mm_iret, ml_iret⟩ ?_
  exact mb_l_nil
theorem mz_X7_ofAsset : ∀ pc i, mb_look mc_X7_ofAsset pc = some i → mb_Mon i ∧ mb_Le i := by
  unfold mc_X7_ofAsset
  refine mb_l_cons ⟨mm_ald _ _, ml_ald _ _⟩ ?_
  refine mb_l_cons ⟨mm_ild _ _, ml_ild _ _⟩ ?_
  refine mb_l_cons ⟨mm_callv _ _ _ _ _, ml_callv _ _ _ _ _⟩ ?_
  refine mb_l_cons ⟨mm_ast _ _, ml_ast _ _⟩ ?_
  refine mb_l_cons ⟨mm_ald _ _, ml_ald _ _⟩ ?_
  refine mb_l_cons ⟨mm_ifnn _ _, ml_ifnn _ _⟩ ?_
  refine mb_l_cons ⟨mm_thr _, ml_thr _⟩ ?_
  refine mb_l_cons ⟨mm_ild _ _, ml_ild _ _⟩ ?_
  refine mb_l_cons ⟨mm_tsw _ _, ml_tsw _ _⟩ ?_
  refine mb_l_cons ⟨mm_ald _ _, ml_ald _ _⟩ ?_
  refine mb_l_cons ⟨mm_getf _ _ _, ml_getf _ _ _⟩ ?_
  refine mb_l_cons ⟨mm_getf _ _ _, ml_getf _ _ _⟩ ?_
  refine mb_l_cons ⟨mm_iret, ml_iret⟩ ?_
  refine mb_l_cons ⟨mm_ald _ _, ml_ald _ _⟩ ?_
  refine mb_l_cons ⟨mm_getf _ _ _, ml_getf _ _ _⟩ ?_
  refine mb_l_cons ⟨mm_iret, ml_iret⟩ ?_
  refine mb_l_cons ⟨mm_ald _ _, ml_ald _ _⟩ ?_
  refine mb_l_cons ⟨mm_ild _ _, ml_ild _ _⟩ ?_
  refine mb_l_cons ⟨mm_callv _ _ _ _ _, ml_callv _ _ _ _ _⟩ ?_
  refine mb_l_cons ⟨mm_iret, ml_iret⟩ ?_
  refine mb_l_cons ⟨mm_thr _, ml_thr _⟩ ?_
  exact mb_l_nil
theorem mz_X7_scene : ∀ pc i, mb_look mc_X7_scene pc = some i → mb_Mon i ∧ mb_Le i := by
  unfold mc_X7_scene
  refine mb_l_cons ⟨mm_ild _ _, ml_ild _ _⟩ ?_
  refine mb_l_cons ⟨mm_push _ _, ml_push _ _⟩ ?_
  refine mb_l_cons ⟨mm_if2 _ _ _, ml_if2 _ _ _⟩ ?_
  refine mb_l_cons ⟨mm_ild _ _, ml_ild _ _⟩ ?_
  refine mb_l_cons ⟨mm_push _ _, ml_push _ _⟩ ?_
  refine mb_l_cons ⟨mm_if2 _ _ _, ml_if2 _ _ _⟩ ?_
  refine mb_l_cons ⟨mm_thr _, ml_thr _⟩ ?_
  refine mb_l_cons ⟨mm_ald _ _, ml_ald _ _⟩ ?_
  refine mb_l_cons ⟨mm_getf _ _ _, ml_getf _ _ _⟩ ?_
  refine mb_l_cons ⟨mm_push _ _, ml_push _ _⟩ ?_
  refine mb_l_cons ⟨mm_if2 _ _ _, ml_if2 _ _ _⟩ ?_
  refine mb_l_cons ⟨mm_thr _, ml_thr _⟩ ?_
  refine mb_l_cons ⟨mm_ald _ _, ml_ald _ _⟩ ?_
  refine mb_l_cons ⟨mm_getf _ _ _, ml_getf _ _ _⟩ ?_
  refine mb_l_cons ⟨mm_ald _ _, ml_ald _ _⟩ ?_
  refine mb_l_cons ⟨mm_getf _ _ _, ml_getf _ _ _⟩ ?_
  refine mb_l_cons ⟨mm_new _ _ _, ml_new _ _ _⟩ ?_
  refine mb_l_cons ⟨mm_dup _, ml_dup _⟩ ?_
  refine mb_l_cons ⟨mm_ild _ _, ml_ild _ _⟩ ?_
  refine mb_l_cons ⟨mm_calli _ _ _, ml_calli _ _ _⟩ ?_
  refine mb_l_cons ⟨mm_aast _ _, ml_aast _ _⟩ ?_
  refine mb_l_cons ⟨mm_ald _ _, ml_ald _ _⟩ ?_
  refine mb_l_cons ⟨mm_dup _, ml_dup _⟩ ?_
  refine mb_l_cons ⟨mm_getf _ _ _, ml_getf _ _ _⟩ ?_
  refine mb_l_cons ⟨mm_dupx1 _, ml_dupx1 _⟩ ?_
  refine mb_l_cons ⟨mm_push _ _, ml_push _ _⟩ ?_
  refine mb_l_cons ⟨mm_iadd _, ml_iadd _⟩ ?_
  refine mb_l_cons ⟨mm_putf _ _ _ _, ml_putf _ _ _ _⟩ ?_
  refine mb_l_cons ⟨mm_iret, ml_iret⟩ ?_
  exact mb_l_nil
theorem mz_X7_cast : ∀ pc i, mb_look mc_X7_cast pc = some i → mb_Mon i ∧ mb_Le i := by
  unfold mc_X7_cast
  refine mb_l_cons ⟨mm_ald _ _, ml_ald _ _⟩ ?_
  refine mb_l_cons ⟨mm_ild _ _, ml_ild _ _⟩ ?_
  refine mb_l_cons ⟨mm_callv _ _ _ _ _, ml_callv _ _ _ _ _⟩ ?_
  refine mb_l_cons ⟨mm_ast _ _, ml_ast _ _⟩ ?_
  refine mb_l_cons ⟨mm_ald _ _, ml_ald _ _⟩ ?_
  refine mb_l_cons ⟨mm_ifn _ _, ml_ifn _ _⟩ ?_
  refine mb_l_cons ⟨mm_ald _ _, ml_ald _ _⟩ ?_
  refine mb_l_cons ⟨mm_ild _ _, ml_ild _ _⟩ ?_
  refine mb_l_cons ⟨mm_ild _ _, ml_ild _ _⟩ ?_
  refine mb_l_cons ⟨mm_callv _ _ _ _ _, ml_callv _ _ _ _ _⟩ ?_
  refine mb_l_cons ⟨mm_ifnn _ _, ml_ifnn _ _⟩ ?_
  refine mb_l_cons ⟨mm_thr _, ml_thr _⟩ ?_
  refine mb_l_cons ⟨mm_ild _ _, ml_ild _ _⟩ ?_
  refine mb_l_cons ⟨mm_calls _ _ _, ml_calls _ _ _⟩ ?_
  refine mb_l_cons ⟨mm_if1 _ _ _, ml_if1 _ _ _⟩ ?_
  refine mb_l_cons ⟨mm_ild _ _, ml_ild _ _⟩ ?_
  refine mb_l_cons ⟨mm_ild _ _, ml_ild _ _⟩ ?_
  refine mb_l_cons ⟨mm_if2 _ _ _, ml_if2 _ _ _⟩ ?_
  refine mb_l_cons ⟨mm_ild _ _, ml_ild _ _⟩ ?_
  refine mb_l_cons ⟨mm_calls _ _ _, ml_calls _ _ _⟩ ?_
  refine mb_l_cons ⟨mm_if1 _ _ _, ml_if1 _ _ _⟩ ?_
  refine mb_l_cons ⟨mm_thr _, ml_thr _⟩ ?_
  refine mb_l_cons ⟨mm_ald _ _, ml_ald _ _⟩ ?_
  refine mb_l_cons ⟨mm_ild _ _, ml_ild _ _⟩ ?_
  refine mb_l_cons ⟨mm_ild _ _, ml_ild _ _⟩ ?_
  refine mb_l_cons ⟨mm_ild _ _, ml_ild _ _⟩ ?_
  refine mb_l_cons ⟨mm_ild _ _, ml_ild _ _⟩ ?_
  refine mb_l_cons ⟨mm_callv _ _ _ _ _, ml_callv _ _ _ _ _⟩ ?_
  refine mb_l_cons ⟨mm_ald _ _, ml_ald _ _⟩ ?_
  refine mb_l_cons ⟨mm_getf _ _ _, ml_getf _ _ _⟩ ?_
  refine mb_l_cons ⟨mm_iret, ml_iret⟩ ?_
  exact mb_l_nil
theorem mz_X7_cut : ∀ pc i, mb_look mc_X7_cut pc = some i → mb_Mon i ∧ mb_Le i := by
  unfold mc_X7_cut
  refine mb_l_cons ⟨mm_ald _ _, ml_ald _ _⟩ ?_
  refine mb_l_cons ⟨mm_ild _ _, ml_ild _ _⟩ ?_
  refine mb_l_cons ⟨mm_callv _ _ _ _ _, ml_callv _ _ _ _ _⟩ ?_
  refine mb_l_cons ⟨mm_ast _ _, ml_ast _ _⟩ ?_
  refine mb_l_cons ⟨mm_ald _ _, ml_ald _ _⟩ ?_
  refine mb_l_cons ⟨mm_ifn _ _, ml_ifn _ _⟩ ?_
  refine mb_l_cons ⟨mm_ald _ _, ml_ald _ _⟩ ?_
  refine mb_l_cons ⟨mm_ild _ _, ml_ild _ _⟩ ?_
  refine mb_l_cons ⟨mm_callv _ _ _ _ _, ml_callv _ _ _ _ _⟩ ?_
  refine mb_l_cons ⟨mm_if1 _ _ _, ml_if1 _ _ _⟩ ?_
  refine mb_l_cons ⟨mm_thr _, ml_thr _⟩ ?_
  refine mb_l_cons ⟨mm_ild _ _, ml_ild _ _⟩ ?_
  refine mb_l_cons ⟨mm_push _ _, ml_push _ _⟩ ?_
  refine mb_l_cons ⟨mm_if2 _ _ _, ml_if2 _ _ _⟩ ?_
  refine mb_l_cons ⟨mm_thr _, ml_thr _⟩ ?_
  refine mb_l_cons ⟨mm_ild _ _, ml_ild _ _⟩ ?_
  refine mb_l_cons ⟨mm_ald _ _, ml_ald _ _⟩ ?_
  refine mb_l_cons ⟨mm_getf _ _ _, ml_getf _ _ _⟩ ?_
  refine mb_l_cons ⟨mm_ild _ _, ml_ild _ _⟩ ?_
  refine mb_l_cons ⟨mm_isub _, ml_isub _⟩ ?_
  refine mb_l_cons ⟨mm_if2 _ _ _, ml_if2 _ _ _⟩ ?_
  refine mb_l_cons ⟨mm_ild _ _, ml_ild _ _⟩ ?_
  refine mb_l_cons ⟨mm_ald _ _, ml_ald _ _⟩ ?_
  refine mb_l_cons ⟨mm_getf _ _ _, ml_getf _ _ _⟩ ?_
  refine mb_l_cons ⟨mm_if2 _ _ _, ml_if2 _ _ _⟩ ?_
  refine mb_l_cons ⟨mm_thr _, ml_thr _⟩ ?_
  refine mb_l_cons ⟨mm_ald _ _, ml_ald _ _⟩ ?_
  refine mb_l_cons ⟨mm_ild _ _, ml_ild _ _⟩ ?_
  refine mb_l_cons ⟨mm_ild _ _, ml_ild _ _⟩ ?_
  refine mb_l_cons ⟨mm_callv _ _ _ _ _, ml_callv _ _ _ _ _⟩ ?_
  refine mb_l_cons ⟨mm_ald _ _, ml_ald _ _⟩ ?_
  refine mb_l_cons ⟨mm_ild _ _, ml_ild _ _⟩ ?_
  refine mb_l_cons ⟨mm_ild _ _, ml_ild _ _⟩ ?_
  refine mb_l_cons ⟨mm_ild _ _, ml_ild _ _⟩ ?_
  refine mb_l_cons ⟨mm_ald _ _, ml_ald _ _⟩ ?_
  refine mb_l_cons ⟨mm_getf _ _ _, ml_getf _ _ _⟩ ?_
  refine mb_l_cons ⟨mm_callv _ _ _ _ _, ml_callv _ _ _ _ _⟩ ?_
  refine mb_l_cons ⟨mm_ald _ _, ml_ald _ _⟩ ?_
  refine mb_l_cons ⟨mm_getf _ _ _, ml_getf _ _ _⟩ ?_
  refine mb_l_cons ⟨mm_iret, ml_iret⟩ ?_
  exact mb_l_nil
theorem mz_X7_note : ∀ pc i, mb_look mc_X7_note pc = some i → mb_Mon i ∧ mb_Le i := by
  unfold mc_X7_note
  refine mb_l_cons ⟨mm_ald _ _, ml_ald _ _⟩ ?_
  refine mb_l_cons ⟨mm_ild _ _, ml_ild _ _⟩ ?_
  refine mb_l_cons ⟨mm_callv _ _ _ _ _, ml_callv _ _ _ _ _⟩ ?_
  refine mb_l_cons ⟨mm_ast _ _, ml_ast _ _⟩ ?_
  refine mb_l_cons ⟨mm_ald _ _, ml_ald _ _⟩ ?_
  refine mb_l_cons ⟨mm_ifn _ _, ml_ifn _ _⟩ ?_
  refine mb_l_cons ⟨mm_ald _ _, ml_ald _ _⟩ ?_
  refine mb_l_cons ⟨mm_ild _ _, ml_ild _ _⟩ ?_
  refine mb_l_cons ⟨mm_callv _ _ _ _ _, ml_callv _ _ _ _ _⟩ ?_
  refine mb_l_cons ⟨mm_if1 _ _ _, ml_if1 _ _ _⟩ ?_
  refine mb_l_cons ⟨mm_thr _, ml_thr _⟩ ?_
  refine mb_l_cons ⟨mm_ald _ _, ml_ald _ _⟩ ?_
  refine mb_l_cons ⟨mm_getf _ _ _, ml_getf _ _ _⟩ ?_
  refine mb_l_cons ⟨mm_push _ _, ml_push _ _⟩ ?_
  refine mb_l_cons ⟨mm_if2 _ _ _, ml_if2 _ _ _⟩ ?_
  refine mb_l_cons ⟨mm_thr _, ml_thr _⟩ ?_
  refine mb_l_cons ⟨mm_ald _ _, ml_ald _ _⟩ ?_
  refine mb_l_cons ⟨mm_getf _ _ _, ml_getf _ _ _⟩ ?_
  refine mb_l_cons ⟨mm_ald _ _, ml_ald _ _⟩ ?_
  refine mb_l_cons ⟨mm_getf _ _ _, ml_getf _ _ _⟩ ?_
  refine mb_l_cons ⟨mm_new _ _ _, ml_new _ _ _⟩ ?_
  refine mb_l_cons ⟨mm_dup _, ml_dup _⟩ ?_
  refine mb_l_cons ⟨mm_ild _ _, ml_ild _ _⟩ ?_
  refine mb_l_cons ⟨mm_ild _ _, ml_ild _ _⟩ ?_
  refine mb_l_cons ⟨mm_calli _ _ _, ml_calli _ _ _⟩ ?_
  refine mb_l_cons ⟨mm_aast _ _, ml_aast _ _⟩ ?_
  refine mb_l_cons ⟨mm_ald _ _, ml_ald _ _⟩ ?_
  refine mb_l_cons ⟨mm_dup _, ml_dup _⟩ ?_
  refine mb_l_cons ⟨mm_getf _ _ _, ml_getf _ _ _⟩ ?_
  refine mb_l_cons ⟨mm_dupx1 _, ml_dupx1 _⟩ ?_
  refine mb_l_cons ⟨mm_push _ _, ml_push _ _⟩ ?_
  refine mb_l_cons ⟨mm_iadd _, ml_iadd _⟩ ?_
  refine mb_l_cons ⟨mm_putf _ _ _ _, ml_putf _ _ _ _⟩ ?_
  refine mb_l_cons ⟨mm_iret, ml_iret⟩ ?_
  exact mb_l_nil
theorem mz_X7_settle : ∀ pc i, mb_look mc_X7_settle pc = some i → mb_Mon i ∧ mb_Le i := by
  unfold mc_X7_settle
  refine mb_l_cons ⟨mm_ald _ _, ml_ald _ _⟩ ?_
  refine mb_l_cons ⟨mm_ild _ _, ml_ild _ _⟩ ?_
  refine mb_l_cons ⟨mm_callv _ _ _ _ _, ml_callv _ _ _ _ _⟩ ?_
  refine mb_l_cons ⟨mm_ast _ _, ml_ast _ _⟩ ?_
  refine mb_l_cons ⟨mm_ald _ _, ml_ald _ _⟩ ?_
  refine mb_l_cons ⟨mm_ifnn _ _, ml_ifnn _ _⟩ ?_
  refine mb_l_cons ⟨mm_thr _, ml_thr _⟩ ?_
  refine mb_l_cons ⟨mm_ald _ _, ml_ald _ _⟩ ?_
  refine mb_l_cons ⟨mm_getf _ _ _, ml_getf _ _ _⟩ ?_
  refine mb_l_cons ⟨mm_if1 _ _ _, ml_if1 _ _ _⟩ ?_
  refine mb_l_cons ⟨mm_thr _, ml_thr _⟩ ?_
  refine mb_l_cons ⟨mm_ald _ _, ml_ald _ _⟩ ?_
  refine mb_l_cons ⟨mm_push _ _, ml_push _ _⟩ ?_
  refine mb_l_cons ⟨mm_putf _ _ _ _, ml_putf _ _ _ _⟩ ?_
  refine mb_l_cons ⟨mm_ald _ _, ml_ald _ _⟩ ?_
  refine mb_l_cons ⟨mm_ald _ _, ml_ald _ _⟩ ?_
  refine mb_l_cons ⟨mm_getf _ _ _, ml_getf _ _ _⟩ ?_
  refine mb_l_cons ⟨mm_callv _ _ _ _ _, ml_callv _ _ _ _ _⟩ ?_
  refine mb_l_cons ⟨mm_iret, ml_iret⟩ ?_
  exact mb_l_nil
theorem mz_X7_ofNote : ∀ pc i, mb_look mc_X7_ofNote pc = some i → mb_Mon i ∧ mb_Le i := by
  unfold mc_X7_ofNote
  refine mb_l_cons ⟨mm_ald _ _, ml_ald _ _⟩ ?_
  refine mb_l_cons ⟨mm_ild _ _, ml_ild _ _⟩ ?_
  refine mb_l_cons ⟨mm_callv _ _ _ _ _, ml_callv _ _ _ _ _⟩ ?_
  refine mb_l_cons ⟨mm_ast _ _, ml_ast _ _⟩ ?_
  refine mb_l_cons ⟨mm_ald _ _, ml_ald _ _⟩ ?_
  refine mb_l_cons ⟨mm_ifnn _ _, ml_ifnn _ _⟩ ?_
  refine mb_l_cons ⟨mm_thr _, ml_thr _⟩ ?_
  refine mb_l_cons ⟨mm_ild _ _, ml_ild _ _⟩ ?_
  refine mb_l_cons ⟨mm_tsw _ _, ml_tsw _ _⟩ ?_
  refine mb_l_cons ⟨mm_ald _ _, ml_ald _ _⟩ ?_
  refine mb_l_cons ⟨mm_getf _ _ _, ml_getf _ _ _⟩ ?_
  refine mb_l_cons ⟨mm_iret, ml_iret⟩ ?_
  refine mb_l_cons ⟨mm_ald _ _, ml_ald _ _⟩ ?_
  refine mb_l_cons ⟨mm_getf _ _ _, ml_getf _ _ _⟩ ?_
  refine mb_l_cons ⟨mm_iret, ml_iret⟩ ?_
  refine mb_l_cons ⟨mm_ald _ _, ml_ald _ _⟩ ?_
  refine mb_l_cons ⟨mm_getf _ _ _, ml_getf _ _ _⟩ ?_
  refine mb_l_cons ⟨mm_if1 _ _ _, ml_if1 _ _ _⟩ ?_
  refine mb_l_cons ⟨mm_push _ _, ml_push _ _⟩ ?_
  refine mb_l_cons ⟨mm_go _, ml_go _⟩ ?_
  refine mb_l_cons ⟨mm_push _ _, ml_push _ _⟩ ?_
  refine mb_l_cons ⟨mm_iret, ml_iret⟩ ?_
  refine mb_l_cons ⟨mm_ald _ _, ml_ald _ _⟩ ?_
  refine mb_l_cons ⟨mm_getf _ _ _, ml_getf _ _ _⟩ ?_
  refine mb_l_cons ⟨mm_iret, ml_iret⟩ ?_
  refine mb_l_cons ⟨mm_thr _, ml_thr _⟩ ?_
  exact mb_l_nil
theorem mz_X7_render : ∀ pc i, mb_look mc_X7_render pc = some i → mb_Mon i ∧ mb_Le i := by
  unfold mc_X7_render
  refine mb_l_cons ⟨mm_ald _ _, ml_ald _ _⟩ ?_
  refine mb_l_cons ⟨mm_ild _ _, ml_ild _ _⟩ ?_
  refine mb_l_cons ⟨mm_callv _ _ _ _ _, ml_callv _ _ _ _ _⟩ ?_
  refine mb_l_cons ⟨mm_ast _ _, ml_ast _ _⟩ ?_
  refine mb_l_cons ⟨mm_ald _ _, ml_ald _ _⟩ ?_
  refine mb_l_cons ⟨mm_ifnn _ _, ml_ifnn _ _⟩ ?_
  refine mb_l_cons ⟨mm_thr _, ml_thr _⟩ ?_
  refine mb_l_cons ⟨mm_ald _ _, ml_ald _ _⟩ ?_
  refine mb_l_cons ⟨mm_getf _ _ _, ml_getf _ _ _⟩ ?_
  refine mb_l_cons ⟨mm_ist _ _, ml_ist _ _⟩ ?_
  refine mb_l_cons ⟨mm_push _ _, ml_push _ _⟩ ?_
  refine mb_l_cons ⟨mm_ist _ _, ml_ist _ _⟩ ?_
  refine mb_l_cons ⟨mm_ild _ _, ml_ild _ _⟩ ?_
  refine mb_l_cons ⟨mm_ald _ _, ml_ald _ _⟩ ?_
  refine mb_l_cons ⟨mm_getf _ _ _, ml_getf _ _ _⟩ ?_
  refine mb_l_cons ⟨mm_if2 _ _ _, ml_if2 _ _ _⟩ ?_
  refine mb_l_cons ⟨mm_ald _ _, ml_ald _ _⟩ ?_
  refine mb_l_cons ⟨mm_ild _ _, ml_ild _ _⟩ ?_
  refine mb_l_cons ⟨mm_callv _ _ _ _ _, ml_callv _ _ _ _ _⟩ ?_
  refine mb_l_cons ⟨mm_ast _ _, ml_ast _ _⟩ ?_
  refine mb_l_cons ⟨mm_ald _ _, ml_ald _ _⟩ ?_
  refine mb_l_cons ⟨mm_ifn _ _, ml_ifn _ _⟩ ?_
  refine mb_l_cons ⟨mm_ald _ _, ml_ald _ _⟩ ?_
  refine mb_l_cons ⟨mm_ald _ _, ml_ald _ _⟩ ?_
  refine mb_l_cons ⟨mm_ald _ _, ml_ald _ _⟩ ?_
  refine mb_l_cons ⟨mm_callv _ _ _ _ _, ml_callv _ _ _ _ _⟩ ?_
  refine mb_l_cons ⟨mm_if1 _ _ _, ml_if1 _ _ _⟩ ?_
  refine mb_l_cons ⟨mm_ald _ _, ml_ald _ _⟩ ?_
  refine mb_l_cons ⟨mm_ald _ _, ml_ald _ _⟩ ?_
  refine mb_l_cons ⟨mm_callv _ _ _ _ _, ml_callv _ _ _ _ _⟩ ?_
  refine mb_l_cons ⟨mm_ald _ _, ml_ald _ _⟩ ?_
  refine mb_l_cons ⟨mm_ald _ _, ml_ald _ _⟩ ?_
  refine mb_l_cons ⟨mm_ald _ _, ml_ald _ _⟩ ?_
  refine mb_l_cons ⟨mm_callv _ _ _ _ _, ml_callv _ _ _ _ _⟩ ?_
  refine mb_l_cons ⟨mm_iinc _ _ _, ml_iinc _ _ _⟩ ?_
  refine mb_l_cons ⟨mm_go _, ml_go _⟩ ?_
  refine mb_l_cons ⟨mm_ald _ _, ml_ald _ _⟩ ?_
  refine mb_l_cons ⟨mm_getf _ _ _, ml_getf _ _ _⟩ ?_
  refine mb_l_cons ⟨mm_ild _ _, ml_ild _ _⟩ ?_
  refine mb_l_cons ⟨mm_isub _, ml_isub _⟩ ?_
  refine mb_l_cons ⟨mm_iret, ml_iret⟩ ?_
  exact mb_l_nil
theorem mz_X7_renderOne : ∀ pc i, mb_look mc_X7_renderOne pc = some i → mb_Mon i ∧ mb_Le i := by
  unfold mc_X7_renderOne
  refine mb_l_cons ⟨mm_ald _ _, ml_ald _ _⟩ ?_
  refine mb_l_cons ⟨mm_ild _ _, ml_ild _ _⟩ ?_
  refine mb_l_cons ⟨mm_callv _ _ _ _ _, ml_callv _ _ _ _ _⟩ ?_
  refine mb_l_cons ⟨mm_ast _ _, ml_ast _ _⟩ ?_
  refine mb_l_cons ⟨mm_ald _ _, ml_ald _ _⟩ ?_
  refine mb_l_cons ⟨mm_ifnn _ _, ml_ifnn _ _⟩ ?_
  refine mb_l_cons ⟨mm_push _ _, ml_push _ _⟩ ?_
  refine mb_l_cons ⟨mm_go _, ml_go _⟩ ?_
  refine mb_l_cons ⟨mm_ald _ _, ml_ald _ _⟩ ?_
  refine mb_l_cons ⟨mm_ild _ _, ml_ild _ _⟩ ?_
  refine mb_l_cons ⟨mm_callv _ _ _ _ _, ml_callv _ _ _ _ _⟩ ?_
  refine mb_l_cons ⟨mm_ast _ _, ml_ast _ _⟩ ?_
  refine mb_l_cons ⟨mm_ald _ _, ml_ald _ _⟩ ?_
  refine mb_l_cons ⟨mm_ifn _ _, ml_ifn _ _⟩ ?_
  refine mb_l_cons ⟨mm_ald _ _, ml_ald _ _⟩ ?_
  refine mb_l_cons ⟨mm_ifnn _ _, ml_ifnn _ _⟩ ?_
  refine mb_l_cons ⟨mm_thr _, ml_thr _⟩ ?_
  refine mb_l_cons ⟨mm_ald _ _, ml_ald _ _⟩ ?_
  refine mb_l_cons ⟨mm_ald _ _, ml_ald _ _⟩ ?_
  refine mb_l_cons ⟨mm_ald _ _, ml_ald _ _⟩ ?_
  refine mb_l_cons ⟨mm_callv _ _ _ _ _, ml_callv _ _ _ _ _⟩ ?_
  refine mb_l_cons ⟨mm_ist _ _, ml_ist _ _⟩ ?_
  refine mb_l_cons ⟨mm_ald _ _, ml_ald _ _⟩ ?_
  refine mb_l_cons ⟨mm_ald _ _, ml_ald _ _⟩ ?_
  refine mb_l_cons ⟨mm_callv _ _ _ _ _, ml_callv _ _ _ _ _⟩ ?_
  refine mb_l_cons ⟨mm_ald _ _, ml_ald _ _⟩ ?_
  refine mb_l_cons ⟨mm_ald _ _, ml_ald _ _⟩ ?_
  refine mb_l_cons ⟨mm_ald _ _, ml_ald _ _⟩ ?_
  refine mb_l_cons ⟨mm_callv _ _ _ _ _, ml_callv _ _ _ _ _⟩ ?_
  refine mb_l_cons ⟨mm_ild _ _, ml_ild _ _⟩ ?_
  refine mb_l_cons ⟨mm_zret, ml_zret⟩ ?_
  exact mb_l_nil
theorem mz_X7_needs : ∀ pc i, mb_look mc_X7_needs pc = some i → mb_Mon i ∧ mb_Le i := by
  unfold mc_X7_needs
  refine mb_l_cons ⟨mm_ald _ _, ml_ald _ _⟩ ?_
  refine mb_l_cons ⟨mm_ild _ _, ml_ild _ _⟩ ?_
  refine mb_l_cons ⟨mm_callv _ _ _ _ _, ml_callv _ _ _ _ _⟩ ?_
  refine mb_l_cons ⟨mm_ast _ _, ml_ast _ _⟩ ?_
  refine mb_l_cons ⟨mm_ald _ _, ml_ald _ _⟩ ?_
  refine mb_l_cons ⟨mm_ifnn _ _, ml_ifnn _ _⟩ ?_
  refine mb_l_cons ⟨mm_thr _, ml_thr _⟩ ?_
  refine mb_l_cons ⟨mm_ald _ _, ml_ald _ _⟩ ?_
  refine mb_l_cons ⟨mm_ald _ _, ml_ald _ _⟩ ?_
  refine mb_l_cons ⟨mm_callv _ _ _ _ _, ml_callv _ _ _ _ _⟩ ?_
  refine mb_l_cons ⟨mm_iret, ml_iret⟩ ?_
  exact mb_l_nil
theorem mz_X7_mixes : ∀ pc i, mb_look mc_X7_mixes pc = some i → mb_Mon i ∧ mb_Le i := by
  unfold mc_X7_mixes
  refine mb_l_cons ⟨mm_ald _ _, ml_ald _ _⟩ ?_
  refine mb_l_cons ⟨mm_ild _ _, ml_ild _ _⟩ ?_
  refine mb_l_cons ⟨mm_callv _ _ _ _ _, ml_callv _ _ _ _ _⟩ ?_
  refine mb_l_cons ⟨mm_ast _ _, ml_ast _ _⟩ ?_
  refine mb_l_cons ⟨mm_ald _ _, ml_ald _ _⟩ ?_
  refine mb_l_cons ⟨mm_ifnn _ _, ml_ifnn _ _⟩ ?_
  refine mb_l_cons ⟨mm_thr _, ml_thr _⟩ ?_
  refine mb_l_cons ⟨mm_push _ _, ml_push _ _⟩ ?_
  refine mb_l_cons ⟨mm_ist _ _, ml_ist _ _⟩ ?_
  refine mb_l_cons ⟨mm_push _ _, ml_push _ _⟩ ?_
  refine mb_l_cons ⟨mm_ist _ _, ml_ist _ _⟩ ?_
  refine mb_l_cons ⟨mm_ild _ _, ml_ild _ _⟩ ?_
  refine mb_l_cons ⟨mm_ald _ _, ml_ald _ _⟩ ?_
  refine mb_l_cons ⟨mm_getf _ _ _, ml_getf _ _ _⟩ ?_
  refine mb_l_cons ⟨mm_if2 _ _ _, ml_if2 _ _ _⟩ ?_
  refine mb_l_cons ⟨mm_ald _ _, ml_ald _ _⟩ ?_
  refine mb_l_cons ⟨mm_ild _ _, ml_ild _ _⟩ ?_
  refine mb_l_cons ⟨mm_callv _ _ _ _ _, ml_callv _ _ _ _ _⟩ ?_
  refine mb_l_cons ⟨mm_if1 _ _ _, ml_if1 _ _ _⟩ ?_
  refine mb_l_cons ⟨mm_ald _ _, ml_ald _ _⟩ ?_
  refine mb_l_cons ⟨mm_ild _ _, ml_ild _ _⟩ ?_
  refine mb_l_cons ⟨mm_callv _ _ _ _ _, ml_callv _ _ _ _ _⟩ ?_
  refine mb_l_cons ⟨mm_if1 _ _ _, ml_if1 _ _ _⟩ ?_
  refine mb_l_cons ⟨mm_iinc _ _ _, ml_iinc _ _ _⟩ ?_
  refine mb_l_cons ⟨mm_iinc _ _ _, ml_iinc _ _ _⟩ ?_
  refine mb_l_cons ⟨mm_go _, ml_go _⟩ ?_
  refine mb_l_cons ⟨mm_ild _ _, ml_ild _ _⟩ ?_
  refine mb_l_cons ⟨mm_iret, ml_iret⟩ ?_
  exact mb_l_nil
theorem mz_X7_ofFrame : ∀ pc i, mb_look mc_X7_ofFrame pc = some i → mb_Mon i ∧ mb_Le i := by
  unfold mc_X7_ofFrame
  refine mb_l_cons ⟨mm_ald _ _, ml_ald _ _⟩ ?_
  refine mb_l_cons ⟨mm_ild _ _, ml_ild _ _⟩ ?_
  refine mb_l_cons ⟨mm_callv _ _ _ _ _, ml_callv _ _ _ _ _⟩ ?_
  refine mb_l_cons ⟨mm_ast _ _, ml_ast _ _⟩ ?_
  refine mb_l_cons ⟨mm_ald _ _, ml_ald _ _⟩ ?_
  refine mb_l_cons ⟨mm_ifnn _ _, ml_ifnn _ _⟩ ?_
  refine mb_l_cons ⟨mm_push _ _, ml_push _ _⟩ ?_
  refine mb_l_cons ⟨mm_go _, ml_go _⟩ ?_
  refine mb_l_cons ⟨mm_ald _ _, ml_ald _ _⟩ ?_
  refine mb_l_cons ⟨mm_ild _ _, ml_ild _ _⟩ ?_
  refine mb_l_cons ⟨mm_callv _ _ _ _ _, ml_callv _ _ _ _ _⟩ ?_
  refine mb_l_cons ⟨mm_ast _ _, ml_ast _ _⟩ ?_
  refine mb_l_cons ⟨mm_ald _ _, ml_ald _ _⟩ ?_
  refine mb_l_cons ⟨mm_ifn _ _, ml_ifn _ _⟩ ?_
  refine mb_l_cons ⟨mm_ald _ _, ml_ald _ _⟩ ?_
  refine mb_l_cons ⟨mm_ifnn _ _, ml_ifnn _ _⟩ ?_
  refine mb_l_cons ⟨mm_thr _, ml_thr _⟩ ?_
  refine mb_l_cons ⟨mm_ild _ _, ml_ild _ _⟩ ?_
  refine mb_l_cons ⟨mm_tsw _ _, ml_tsw _ _⟩ ?_
  refine mb_l_cons ⟨mm_ald _ _, ml_ald _ _⟩ ?_
  refine mb_l_cons ⟨mm_getf _ _ _, ml_getf _ _ _⟩ ?_
  refine mb_l_cons ⟨mm_iret, ml_iret⟩ ?_
  refine mb_l_cons ⟨mm_ald _ _, ml_ald _ _⟩ ?_
  refine mb_l_cons ⟨mm_getf _ _ _, ml_getf _ _ _⟩ ?_
  refine mb_l_cons ⟨mm_if1 _ _ _, ml_if1 _ _ _⟩ ?_
  refine mb_l_cons ⟨mm_push _ _, ml_push _ _⟩ ?_
  refine mb_l_cons ⟨mm_go _, ml_go _⟩ ?_
  refine mb_l_cons ⟨mm_push _ _, ml_push _ _⟩ ?_
  refine mb_l_cons ⟨mm_iret, ml_iret⟩ ?_
  refine mb_l_cons ⟨mm_ald _ _, ml_ald _ _⟩ ?_
  refine mb_l_cons ⟨mm_ald _ _, ml_ald _ _⟩ ?_
  refine mb_l_cons ⟨mm_ald _ _, ml_ald _ _⟩ ?_
  refine mb_l_cons ⟨mm_callv _ _ _ _ _, ml_callv _ _ _ _ _⟩ ?_
  refine mb_l_cons ⟨mm_if1 _ _ _, ml_if1 _ _ _⟩ ?_
  refine mb_l_cons ⟨mm_push _ _, ml_push _ _⟩ ?_
  refine mb_l_cons ⟨mm_go _, ml_go _⟩ ?_
  refine mb_l_cons ⟨mm_push _ _, ml_push _ _⟩ ?_
  refine mb_l_cons ⟨mm_iret, ml_iret⟩ ?_
  refine mb_l_cons ⟨mm_ald _ _, ml_ald _ _⟩ ?_
  refine mb_l_cons ⟨mm_ald _ _, ml_ald _ _⟩ ?_
  refine mb_l_cons ⟨mm_ald _ _, ml_ald _ _⟩ ?_
  refine mb_l_cons ⟨mm_callv _ _ _ _ _, ml_callv _ _ _ _ _⟩ ?_
  refine mb_l_cons ⟨mm_iret, ml_iret⟩ ?_
  refine mb_l_cons ⟨mm_ald _ _, ml_ald _ _⟩ ?_
  refine mb_l_cons ⟨mm_ild _ _, ml_ild _ _⟩ ?_
  refine mb_l_cons ⟨mm_ild _ _, ml_ild _ _⟩ ?_
  refine mb_l_cons ⟨mm_callv _ _ _ _ _, ml_callv _ _ _ _ _⟩ ?_
  refine mb_l_cons ⟨mm_iret, ml_iret⟩ ?_
  refine mb_l_cons ⟨mm_ald _ _, ml_ald _ _⟩ ?_
  refine mb_l_cons ⟨mm_getf _ _ _, ml_getf _ _ _⟩ ?_
  refine mb_l_cons ⟨mm_iret, ml_iret⟩ ?_
  refine mb_l_cons ⟨mm_thr _, ml_thr _⟩ ?_
  exact mb_l_nil
theorem mz_X7_kept : ∀ pc i, mb_look mc_X7_kept pc = some i → mb_Mon i ∧ mb_Le i := by
  unfold mc_X7_kept
  refine mb_l_cons ⟨mm_ald _ _, ml_ald _ _⟩ ?_
  refine mb_l_cons ⟨mm_ild _ _, ml_ild _ _⟩ ?_
  refine mb_l_cons ⟨mm_callv _ _ _ _ _, ml_callv _ _ _ _ _⟩ ?_
  refine mb_l_cons ⟨mm_ast _ _, ml_ast _ _⟩ ?_
  refine mb_l_cons ⟨mm_ald _ _, ml_ald _ _⟩ ?_
  refine mb_l_cons ⟨mm_ifnn _ _, ml_ifnn _ _⟩ ?_
  refine mb_l_cons ⟨mm_push _ _, ml_push _ _⟩ ?_
  refine mb_l_cons ⟨mm_go _, ml_go _⟩ ?_
  refine mb_l_cons ⟨mm_ald _ _, ml_ald _ _⟩ ?_
  refine mb_l_cons ⟨mm_ild _ _, ml_ild _ _⟩ ?_
  refine mb_l_cons ⟨mm_callv _ _ _ _ _, ml_callv _ _ _ _ _⟩ ?_
  refine mb_l_cons ⟨mm_ast _ _, ml_ast _ _⟩ ?_
  refine mb_l_cons ⟨mm_ald _ _, ml_ald _ _⟩ ?_
  refine mb_l_cons ⟨mm_ifn _ _, ml_ifn _ _⟩ ?_
  refine mb_l_cons ⟨mm_ald _ _, ml_ald _ _⟩ ?_
  refine mb_l_cons ⟨mm_ild _ _, ml_ild _ _⟩ ?_
  refine mb_l_cons ⟨mm_callv _ _ _ _ _, ml_callv _ _ _ _ _⟩ ?_
  refine mb_l_cons ⟨mm_ifnn _ _, ml_ifnn _ _⟩ ?_
  refine mb_l_cons ⟨mm_thr _, ml_thr _⟩ ?_
  refine mb_l_cons ⟨mm_ald _ _, ml_ald _ _⟩ ?_
  refine mb_l_cons ⟨mm_ild _ _, ml_ild _ _⟩ ?_
  refine mb_l_cons ⟨mm_callv _ _ _ _ _, ml_callv _ _ _ _ _⟩ ?_
  refine mb_l_cons ⟨mm_iret, ml_iret⟩ ?_
  exact mb_l_nil
theorem mz_X7_count : ∀ pc i, mb_look mc_X7_count pc = some i → mb_Mon i ∧ mb_Le i := by
  unfold mc_X7_count
  refine mb_l_cons ⟨mm_ild _ _, ml_ild _ _⟩ ?_
  refine mb_l_cons ⟨mm_tsw _ _, ml_tsw _ _⟩ ?_
  refine mb_l_cons ⟨mm_ald _ _, ml_ald _ _⟩ ?_
  refine mb_l_cons ⟨mm_getf _ _ _, ml_getf _ _ _⟩ ?_
  refine mb_l_cons ⟨mm_iret, ml_iret⟩ ?_
  refine mb_l_cons ⟨mm_ald _ _, ml_ald _ _⟩ ?_
  refine mb_l_cons ⟨mm_callv _ _ _ _ _, ml_callv _ _ _ _ _⟩ ?_
  refine mb_l_cons ⟨mm_iret, ml_iret⟩ ?_
  refine mb_l_cons ⟨mm_ald _ _, ml_ald _ _⟩ ?_
  refine mb_l_cons ⟨mm_getf _ _ _, ml_getf _ _ _⟩ ?_
  refine mb_l_cons ⟨mm_iret, ml_iret⟩ ?_
  refine mb_l_cons ⟨mm_ald _ _, ml_ald _ _⟩ ?_
  refine mb_l_cons ⟨mm_callv _ _ _ _ _, ml_callv _ _ _ _ _⟩ ?_
  refine mb_l_cons ⟨mm_iret, ml_iret⟩ ?_
  refine mb_l_cons ⟨mm_ald _ _, ml_ald _ _⟩ ?_
  refine mb_l_cons ⟨mm_callv _ _ _ _ _, ml_callv _ _ _ _ _⟩ ?_
  refine mb_l_cons ⟨mm_iret, ml_iret⟩ ?_
  refine mb_l_cons ⟨mm_ald _ _, ml_ald _ _⟩ ?_
  refine mb_l_cons ⟨mm_getf _ _ _, ml_getf _ _ _⟩ ?_
  refine mb_l_cons ⟨mm_iret, ml_iret⟩ ?_
  refine mb_l_cons ⟨mm_ald _ _, ml_ald _ _⟩ ?_
  refine mb_l_cons ⟨mm_callv _ _ _ _ _, ml_callv _ _ _ _ _⟩ ?_
  refine mb_l_cons ⟨mm_iret, ml_iret⟩ ?_
  refine mb_l_cons ⟨mm_thr _, ml_thr _⟩ ?_
  exact mb_l_nil
theorem mz_X7_assetAt : ∀ pc i, mb_look mc_X7_assetAt pc = some i → mb_Mon i ∧ mb_Le i := by
  unfold mc_X7_assetAt
  refine mb_l_cons ⟨mm_ild _ _, ml_ild _ _⟩ ?_
  refine mb_l_cons ⟨mm_if1 _ _ _, ml_if1 _ _ _⟩ ?_
  refine mb_l_cons ⟨mm_ild _ _, ml_ild _ _⟩ ?_
  refine mb_l_cons ⟨mm_ald _ _, ml_ald _ _⟩ ?_
  refine mb_l_cons ⟨mm_getf _ _ _, ml_getf _ _ _⟩ ?_
  refine mb_l_cons ⟨mm_if2 _ _ _, ml_if2 _ _ _⟩ ?_
  refine mb_l_cons ⟨mm_push _ _, ml_push _ _⟩ ?_
  refine mb_l_cons ⟨mm_go _, ml_go _⟩ ?_
  refine mb_l_cons ⟨mm_ald _ _, ml_ald _ _⟩ ?_
  refine mb_l_cons ⟨mm_getf _ _ _, ml_getf _ _ _⟩ ?_
  refine mb_l_cons ⟨mm_ild _ _, ml_ild _ _⟩ ?_
  refine mb_l_cons ⟨mm_aald _, ml_aald _⟩ ?_
  refine mb_l_cons ⟨mm_aret, ml_aret⟩ ?_
  exact mb_l_nil
theorem mz_X7_sceneAt : ∀ pc i, mb_look mc_X7_sceneAt pc = some i → mb_Mon i ∧ mb_Le i := by
  unfold mc_X7_sceneAt
  refine mb_l_cons ⟨mm_ild _ _, ml_ild _ _⟩ ?_
  refine mb_l_cons ⟨mm_if1 _ _ _, ml_if1 _ _ _⟩ ?_
  refine mb_l_cons ⟨mm_ild _ _, ml_ild _ _⟩ ?_
  refine mb_l_cons ⟨mm_ald _ _, ml_ald _ _⟩ ?_
  refine mb_l_cons ⟨mm_getf _ _ _, ml_getf _ _ _⟩ ?_
  refine mb_l_cons ⟨mm_if2 _ _ _, ml_if2 _ _ _⟩ ?_
  refine mb_l_cons ⟨mm_push _ _, ml_push _ _⟩ ?_
  refine mb_l_cons ⟨mm_go _, ml_go _⟩ ?_
  refine mb_l_cons ⟨mm_ald _ _, ml_ald _ _⟩ ?_
  refine mb_l_cons ⟨mm_getf _ _ _, ml_getf _ _ _⟩ ?_
  refine mb_l_cons ⟨mm_ild _ _, ml_ild _ _⟩ ?_
  refine mb_l_cons ⟨mm_aald _, ml_aald _⟩ ?_
  refine mb_l_cons ⟨mm_aret, ml_aret⟩ ?_
  exact mb_l_nil
theorem mz_X7_noteAt : ∀ pc i, mb_look mc_X7_noteAt pc = some i → mb_Mon i ∧ mb_Le i := by
  unfold mc_X7_noteAt
  refine mb_l_cons ⟨mm_ild _ _, ml_ild _ _⟩ ?_
  refine mb_l_cons ⟨mm_if1 _ _ _, ml_if1 _ _ _⟩ ?_
  refine mb_l_cons ⟨mm_ild _ _, ml_ild _ _⟩ ?_
  refine mb_l_cons ⟨mm_ald _ _, ml_ald _ _⟩ ?_
  refine mb_l_cons ⟨mm_getf _ _ _, ml_getf _ _ _⟩ ?_
  refine mb_l_cons ⟨mm_if2 _ _ _, ml_if2 _ _ _⟩ ?_
  refine mb_l_cons ⟨mm_push _ _, ml_push _ _⟩ ?_
  refine mb_l_cons ⟨mm_go _, ml_go _⟩ ?_
  refine mb_l_cons ⟨mm_ald _ _, ml_ald _ _⟩ ?_
  refine mb_l_cons ⟨mm_getf _ _ _, ml_getf _ _ _⟩ ?_
  refine mb_l_cons ⟨mm_ild _ _, ml_ild _ _⟩ ?_
  refine mb_l_cons ⟨mm_aald _, ml_aald _⟩ ?_
  refine mb_l_cons ⟨mm_aret, ml_aret⟩ ?_
  exact mb_l_nil
theorem mz_X7_draftCurve : ∀ pc i, mb_look mc_X7_draftCurve pc = some i → mb_Mon i ∧ mb_Le i := by
  unfold mc_X7_draftCurve
  refine mb_l_cons ⟨mm_ald _ _, ml_ald _ _⟩ ?_
  refine mb_l_cons ⟨mm_ild _ _, ml_ild _ _⟩ ?_
  refine mb_l_cons ⟨mm_callv _ _ _ _ _, ml_callv _ _ _ _ _⟩ ?_
  refine mb_l_cons ⟨mm_ast _ _, ml_ast _ _⟩ ?_
  refine mb_l_cons ⟨mm_ald _ _, ml_ald _ _⟩ ?_
  refine mb_l_cons ⟨mm_ifnn _ _, ml_ifnn _ _⟩ ?_
  refine mb_l_cons ⟨mm_push _ _, ml_push _ _⟩ ?_
  refine mb_l_cons ⟨mm_go _, ml_go _⟩ ?_
  refine mb_l_cons ⟨mm_ald _ _, ml_ald _ _⟩ ?_
  refine mb_l_cons ⟨mm_getf _ _ _, ml_getf _ _ _⟩ ?_
  refine mb_l_cons ⟨mm_ild _ _, ml_ild _ _⟩ ?_
  refine mb_l_cons ⟨mm_callv _ _ _ _ _, ml_callv _ _ _ _ _⟩ ?_
  refine mb_l_cons ⟨mm_aret, ml_aret⟩ ?_
  exact mb_l_nil
theorem mz_X7_rigOf : ∀ pc i, mb_look mc_X7_rigOf pc = some i → mb_Mon i ∧ mb_Le i := by
  unfold mc_X7_rigOf
  refine mb_l_cons ⟨mm_ald _ _, ml_ald _ _⟩ ?_
  refine mb_l_cons ⟨mm_ild _ _, ml_ild _ _⟩ ?_
  refine mb_l_cons ⟨mm_callv _ _ _ _ _, ml_callv _ _ _ _ _⟩ ?_
  refine mb_l_cons ⟨mm_ast _ _, ml_ast _ _⟩ ?_
  refine mb_l_cons ⟨mm_ald _ _, ml_ald _ _⟩ ?_
  refine mb_l_cons ⟨mm_ifnn _ _, ml_ifnn _ _⟩ ?_
  refine mb_l_cons ⟨mm_push _ _, ml_push _ _⟩ ?_
  refine mb_l_cons ⟨mm_aret, ml_aret⟩ ?_
  refine mb_l_cons ⟨mm_ild _ _, ml_ild _ _⟩ ?_
  refine mb_l_cons ⟨mm_push _ _, ml_push _ _⟩ ?_
  refine mb_l_cons ⟨mm_if2 _ _ _, ml_if2 _ _ _⟩ ?_
  refine mb_l_cons ⟨mm_ald _ _, ml_ald _ _⟩ ?_
  refine mb_l_cons ⟨mm_getf _ _ _, ml_getf _ _ _⟩ ?_
  refine mb_l_cons ⟨mm_go _, ml_go _⟩ ?_
  refine mb_l_cons ⟨mm_ald _ _, ml_ald _ _⟩ ?_
  refine mb_l_cons ⟨mm_ild _ _, ml_ild _ _⟩ ?_
  refine mb_l_cons ⟨mm_callv _ _ _ _ _, ml_callv _ _ _ _ _⟩ ?_
  refine mb_l_cons ⟨mm_aret, ml_aret⟩ ?_
  exact mb_l_nil
theorem mz_X7_isCurveFrame : ∀ pc i, mb_look mc_X7_isCurveFrame pc = some i → mb_Mon i ∧ mb_Le i := by
  unfold mc_X7_isCurveFrame
  refine mb_l_cons ⟨mm_ild _ _, ml_ild _ _⟩ ?_
  refine mb_l_cons ⟨mm_if1 _ _ _, ml_if1 _ _ _⟩ ?_
  refine mb_l_cons ⟨mm_ild _ _, ml_ild _ _⟩ ?_
  refine mb_l_cons ⟨mm_push _ _, ml_push _ _⟩ ?_
  refine mb_l_cons ⟨mm_if2 _ _ _, ml_if2 _ _ _⟩ ?_
  refine mb_l_cons ⟨mm_push _ _, ml_push _ _⟩ ?_
  refine mb_l_cons ⟨mm_go _, ml_go _⟩ ?_
  refine mb_l_cons ⟨mm_push _ _, ml_push _ _⟩ ?_
  refine mb_l_cons ⟨mm_zret, ml_zret⟩ ?_
  exact mb_l_nil
theorem mz_X7_canBeShown : ∀ pc i, mb_look mc_X7_canBeShown pc = some i → mb_Mon i ∧ mb_Le i := by
  unfold mc_X7_canBeShown
  refine mb_l_cons ⟨mm_ild _ _, ml_ild _ _⟩ ?_
  refine mb_l_cons ⟨mm_if1 _ _ _, ml_if1 _ _ _⟩ ?_
  refine mb_l_cons ⟨mm_ild _ _, ml_ild _ _⟩ ?_
  refine mb_l_cons ⟨mm_push _ _, ml_push _ _⟩ ?_
  refine mb_l_cons ⟨mm_if2 _ _ _, ml_if2 _ _ _⟩ ?_
  refine mb_l_cons ⟨mm_push _ _, ml_push _ _⟩ ?_
  refine mb_l_cons ⟨mm_go _, ml_go _⟩ ?_
  refine mb_l_cons ⟨mm_push _ _, ml_push _ _⟩ ?_
  refine mb_l_cons ⟨mm_zret, ml_zret⟩ ?_
  exact mb_l_nil
theorem mz_X7_seenVersion : ∀ pc i, mb_look mc_X7_seenVersion pc = some i → mb_Mon i ∧ mb_Le i := by
  unfold mc_X7_seenVersion
  refine mb_l_cons ⟨mm_ald _ _, ml_ald _ _⟩ ?_
  refine mb_l_cons ⟨mm_ild _ _, ml_ild _ _⟩ ?_
  refine mb_l_cons ⟨mm_callv _ _ _ _ _, ml_callv _ _ _ _ _⟩ ?_
  refine mb_l_cons ⟨mm_ast _ _, ml_ast _ _⟩ ?_
  refine mb_l_cons ⟨mm_ald _ _, ml_ald _ _⟩ ?_
  refine mb_l_cons ⟨mm_ild _ _, ml_ild _ _⟩ ?_
  refine mb_l_cons ⟨mm_callv _ _ _ _ _, ml_callv _ _ _ _ _⟩ ?_
  refine mb_l_cons ⟨mm_ast _ _, ml_ast _ _⟩ ?_
  refine mb_l_cons ⟨mm_ald _ _, ml_ald _ _⟩ ?_
  refine mb_l_cons ⟨mm_ifn _ _, ml_ifn _ _⟩ ?_
  refine mb_l_cons ⟨mm_ald _ _, ml_ald _ _⟩ ?_
  refine mb_l_cons ⟨mm_ifn _ _, ml_ifn _ _⟩ ?_
  refine mb_l_cons ⟨mm_ald _ _, ml_ald _ _⟩ ?_
  refine mb_l_cons ⟨mm_ald _ _, ml_ald _ _⟩ ?_
  refine mb_l_cons ⟨mm_getf _ _ _, ml_getf _ _ _⟩ ?_
  refine mb_l_cons ⟨mm_callv _ _ _ _ _, ml_callv _ _ _ _ _⟩ ?_
  refine mb_l_cons ⟨mm_if1 _ _ _, ml_if1 _ _ _⟩ ?_
  refine mb_l_cons ⟨mm_push _ _, ml_push _ _⟩ ?_
  refine mb_l_cons ⟨mm_iret, ml_iret⟩ ?_
  refine mb_l_cons ⟨mm_ald _ _, ml_ald _ _⟩ ?_
  refine mb_l_cons ⟨mm_getf _ _ _, ml_getf _ _ _⟩ ?_
  refine mb_l_cons ⟨mm_push _ _, ml_push _ _⟩ ?_
  refine mb_l_cons ⟨mm_if2 _ _ _, ml_if2 _ _ _⟩ ?_
  refine mb_l_cons ⟨mm_ald _ _, ml_ald _ _⟩ ?_
  refine mb_l_cons ⟨mm_getf _ _ _, ml_getf _ _ _⟩ ?_
  refine mb_l_cons ⟨mm_push _ _, ml_push _ _⟩ ?_
  refine mb_l_cons ⟨mm_isub _, ml_isub _⟩ ?_
  refine mb_l_cons ⟨mm_go _, ml_go _⟩ ?_
  refine mb_l_cons ⟨mm_ald _ _, ml_ald _ _⟩ ?_
  refine mb_l_cons ⟨mm_getf _ _ _, ml_getf _ _ _⟩ ?_
  refine mb_l_cons ⟨mm_iret, ml_iret⟩ ?_
  exact mb_l_nil
theorem mz_X7_seenRig : ∀ pc i, mb_look mc_X7_seenRig pc = some i → mb_Mon i ∧ mb_Le i := by
  unfold mc_X7_seenRig
  refine mb_l_cons ⟨mm_ald _ _, ml_ald _ _⟩ ?_
  refine mb_l_cons ⟨mm_ild _ _, ml_ild _ _⟩ ?_
  refine mb_l_cons ⟨mm_callv _ _ _ _ _, ml_callv _ _ _ _ _⟩ ?_
  refine mb_l_cons ⟨mm_ast _ _, ml_ast _ _⟩ ?_
  refine mb_l_cons ⟨mm_ald _ _, ml_ald _ _⟩ ?_
  refine mb_l_cons ⟨mm_ifnn _ _, ml_ifnn _ _⟩ ?_
  refine mb_l_cons ⟨mm_push _ _, ml_push _ _⟩ ?_
  refine mb_l_cons ⟨mm_go _, ml_go _⟩ ?_
  refine mb_l_cons ⟨mm_ald _ _, ml_ald _ _⟩ ?_
  refine mb_l_cons ⟨mm_ald _ _, ml_ald _ _⟩ ?_
  refine mb_l_cons ⟨mm_ald _ _, ml_ald _ _⟩ ?_
  refine mb_l_cons ⟨mm_ald _ _, ml_ald _ _⟩ ?_
  refine mb_l_cons ⟨mm_ild _ _, ml_ild _ _⟩ ?_
  refine mb_l_cons ⟨mm_callv _ _ _ _ _, ml_callv _ _ _ _ _⟩ ?_
  refine mb_l_cons ⟨mm_callv _ _ _ _ _, ml_callv _ _ _ _ _⟩ ?_
  refine mb_l_cons ⟨mm_aret, ml_aret⟩ ?_
  exact mb_l_nil
theorem mz_X7_bonesSeen : ∀ pc i, mb_look mc_X7_bonesSeen pc = some i → mb_Mon i ∧ mb_Le i := by
  unfold mc_X7_bonesSeen
  refine mb_l_cons ⟨mm_push _ _, ml_push _ _⟩ ?_
  refine mb_l_cons ⟨mm_ist _ _, ml_ist _ _⟩ ?_
  refine mb_l_cons ⟨mm_push _ _, ml_push _ _⟩ ?_
  refine mb_l_cons ⟨mm_ist _ _, ml_ist _ _⟩ ?_
  refine mb_l_cons ⟨mm_ild _ _, ml_ild _ _⟩ ?_
  refine mb_l_cons ⟨mm_ald _ _, ml_ald _ _⟩ ?_
  refine mb_l_cons ⟨mm_getf _ _ _, ml_getf _ _ _⟩ ?_
  refine mb_l_cons ⟨mm_if2 _ _ _, ml_if2 _ _ _⟩ ?_
  refine mb_l_cons ⟨mm_ald _ _, ml_ald _ _⟩ ?_
  refine mb_l_cons ⟨mm_ald _ _, ml_ald _ _⟩ ?_
  refine mb_l_cons ⟨mm_ald _ _, ml_ald _ _⟩ ?_
  refine mb_l_cons ⟨mm_ild _ _, ml_ild _ _⟩ ?_
  refine mb_l_cons ⟨mm_callv _ _ _ _ _, ml_callv _ _ _ _ _⟩ ?_
  refine mb_l_cons ⟨mm_ast _ _, ml_ast _ _⟩ ?_
  refine mb_l_cons ⟨mm_ald _ _, ml_ald _ _⟩ ?_
  refine mb_l_cons ⟨mm_ifn _ _, ml_ifn _ _⟩ ?_
  refine mb_l_cons ⟨mm_ild _ _, ml_ild _ _⟩ ?_
  refine mb_l_cons ⟨mm_ald _ _, ml_ald _ _⟩ ?_
  refine mb_l_cons ⟨mm_getf _ _ _, ml_getf _ _ _⟩ ?_
  refine mb_l_cons ⟨mm_iadd _, ml_iadd _⟩ ?_
  refine mb_l_cons ⟨mm_ist _ _, ml_ist _ _⟩ ?_
  refine mb_l_cons ⟨mm_iinc _ _ _, ml_iinc _ _ _⟩ ?_
  refine mb_l_cons ⟨mm_go _, ml_go _⟩ ?_
  refine mb_l_cons ⟨mm_ild _ _, ml_ild _ _⟩ ?_
  refine mb_l_cons ⟨mm_iret, ml_iret⟩ ?_
  exact mb_l_nil
theorem mz_X7_keepVersions : ∀ pc i, mb_look mc_X7_keepVersions pc = some i → mb_Mon i ∧ mb_Le i := by
  unfold mc_X7_keepVersions
  refine mb_l_cons ⟨mm_push _ _, ml_push _ _⟩ ?_
  refine mb_l_cons ⟨mm_ist _ _, ml_ist _ _⟩ ?_
  refine mb_l_cons ⟨mm_ild _ _, ml_ild _ _⟩ ?_
  refine mb_l_cons ⟨mm_ald _ _, ml_ald _ _⟩ ?_
  refine mb_l_cons ⟨mm_getf _ _ _, ml_getf _ _ _⟩ ?_
  refine mb_l_cons ⟨mm_if2 _ _ _, ml_if2 _ _ _⟩ ?_
  refine mb_l_cons ⟨mm_ald _ _, ml_ald _ _⟩ ?_
  refine mb_l_cons ⟨mm_ild _ _, ml_ild _ _⟩ ?_
  refine mb_l_cons ⟨mm_ald _ _, ml_ald _ _⟩ ?_
  refine mb_l_cons ⟨mm_ald _ _, ml_ald _ _⟩ ?_
  refine mb_l_cons ⟨mm_ald _ _, ml_ald _ _⟩ ?_
  refine mb_l_cons ⟨mm_ild _ _, ml_ild _ _⟩ ?_
  refine mb_l_cons ⟨mm_callv _ _ _ _ _, ml_callv _ _ _ _ _⟩ ?_
  refine mb_l_cons ⟨mm_callv _ _ _ _ _, ml_callv _ _ _ _ _⟩ ?_
  refine mb_l_cons ⟨mm_iinc _ _ _, ml_iinc _ _ _⟩ ?_
  refine mb_l_cons ⟨mm_go _, ml_go _⟩ ?_
  refine mb_l_cons ⟨mm_vret, ml_vret⟩ ?_
  exact mb_l_nil
theorem mz_X7_countRendering : ∀ pc i, mb_look mc_X7_countRendering pc = some i → mb_Mon i ∧ mb_Le i := by
  unfold mc_X7_countRendering
  refine mb_l_cons ⟨mm_ald _ _, ml_ald _ _⟩ ?_
  refine mb_l_cons ⟨mm_dup _, ml_dup _⟩ ?_
  refine mb_l_cons ⟨mm_getf _ _ _, ml_getf _ _ _⟩ ?_
  refine mb_l_cons ⟨mm_push _ _, ml_push _ _⟩ ?_
  refine mb_l_cons ⟨mm_iadd _, ml_iadd _⟩ ?_
  refine mb_l_cons ⟨mm_putf _ _ _ _, ml_putf _ _ _ _⟩ ?_
  refine mb_l_cons ⟨mm_ald _ _, ml_ald _ _⟩ ?_
  refine mb_l_cons ⟨mm_dup _, ml_dup _⟩ ?_
  refine mb_l_cons ⟨mm_getf _ _ _, ml_getf _ _ _⟩ ?_
  refine mb_l_cons ⟨mm_push _ _, ml_push _ _⟩ ?_
  refine mb_l_cons ⟨mm_iadd _, ml_iadd _⟩ ?_
  refine mb_l_cons ⟨mm_putf _ _ _ _, ml_putf _ _ _ _⟩ ?_
  refine mb_l_cons ⟨mm_vret, ml_vret⟩ ?_
  exact mb_l_nil
theorem mz_X7_isStale : ∀ pc i, mb_look mc_X7_isStale pc = some i → mb_Mon i ∧ mb_Le i := by
  unfold mc_X7_isStale
  refine mb_l_cons ⟨mm_ald _ _, ml_ald _ _⟩ ?_
  refine mb_l_cons ⟨mm_getf _ _ _, ml_getf _ _ _⟩ ?_
  refine mb_l_cons ⟨mm_if1 _ _ _, ml_if1 _ _ _⟩ ?_
  refine mb_l_cons ⟨mm_push _ _, ml_push _ _⟩ ?_
  refine mb_l_cons ⟨mm_zret, ml_zret⟩ ?_
  refine mb_l_cons ⟨mm_push _ _, ml_push _ _⟩ ?_
  refine mb_l_cons ⟨mm_ist _ _, ml_ist _ _⟩ ?_
  refine mb_l_cons ⟨mm_ild _ _, ml_ild _ _⟩ ?_
  refine mb_l_cons ⟨mm_ald _ _, ml_ald _ _⟩ ?_
  refine mb_l_cons ⟨mm_getf _ _ _, ml_getf _ _ _⟩ ?_
  refine mb_l_cons ⟨mm_if2 _ _ _, ml_if2 _ _ _⟩ ?_
  refine mb_l_cons ⟨mm_ald _ _, ml_ald _ _⟩ ?_
  refine mb_l_cons ⟨mm_ild _ _, ml_ild _ _⟩ ?_
  refine mb_l_cons ⟨mm_callv _ _ _ _ _, ml_callv _ _ _ _ _⟩ ?_
  refine mb_l_cons ⟨mm_ast _ _, ml_ast _ _⟩ ?_
  refine mb_l_cons ⟨mm_ald _ _, ml_ald _ _⟩ ?_
  refine mb_l_cons ⟨mm_ald _ _, ml_ald _ _⟩ ?_
  refine mb_l_cons ⟨mm_ald _ _, ml_ald _ _⟩ ?_
  refine mb_l_cons ⟨mm_ild _ _, ml_ild _ _⟩ ?_
  refine mb_l_cons ⟨mm_callv _ _ _ _ _, ml_callv _ _ _ _ _⟩ ?_
  refine mb_l_cons ⟨mm_ist _ _, ml_ist _ _⟩ ?_
  refine mb_l_cons ⟨mm_ald _ _, ml_ald _ _⟩ ?_
  refine mb_l_cons ⟨mm_ifn _ _, ml_ifn _ _⟩ ?_
  refine mb_l_cons ⟨mm_ald _ _, ml_ald _ _⟩ ?_
  refine mb_l_cons ⟨mm_ald _ _, ml_ald _ _⟩ ?_
  refine mb_l_cons ⟨mm_ild _ _, ml_ild _ _⟩ ?_
  refine mb_l_cons ⟨mm_callv _ _ _ _ _, ml_callv _ _ _ _ _⟩ ?_
  refine mb_l_cons ⟨mm_ild _ _, ml_ild _ _⟩ ?_
  refine mb_l_cons ⟨mm_ald _ _, ml_ald _ _⟩ ?_
  refine mb_l_cons ⟨mm_getf _ _ _, ml_getf _ _ _⟩ ?_
  refine mb_l_cons ⟨mm_callv _ _ _ _ _, ml_callv _ _ _ _ _⟩ ?_
  refine mb_l_cons ⟨mm_if1 _ _ _, ml_if1 _ _ _⟩ ?_
  refine mb_l_cons ⟨mm_push _ _, ml_push _ _⟩ ?_
  refine mb_l_cons ⟨mm_zret, ml_zret⟩ ?_
  refine mb_l_cons ⟨mm_iinc _ _ _, ml_iinc _ _ _⟩ ?_
  refine mb_l_cons ⟨mm_go _, ml_go _⟩ ?_
  refine mb_l_cons ⟨mm_push _ _, ml_push _ _⟩ ?_
  refine mb_l_cons ⟨mm_zret, ml_zret⟩ ?_
  exact mb_l_nil
theorem mz_X7_staleFrames : ∀ pc i, mb_look mc_X7_staleFrames pc = some i → mb_Mon i ∧ mb_Le i := by
  unfold mc_X7_staleFrames
  refine mb_l_cons ⟨mm_push _ _, ml_push _ _⟩ ?_
  refine mb_l_cons ⟨mm_ist _ _, ml_ist _ _⟩ ?_
  refine mb_l_cons ⟨mm_push _ _, ml_push _ _⟩ ?_
  refine mb_l_cons ⟨mm_ist _ _, ml_ist _ _⟩ ?_
  refine mb_l_cons ⟨mm_ild _ _, ml_ild _ _⟩ ?_
  refine mb_l_cons ⟨mm_ald _ _, ml_ald _ _⟩ ?_
  refine mb_l_cons ⟨mm_getf _ _ _, ml_getf _ _ _⟩ ?_
  refine mb_l_cons ⟨mm_if2 _ _ _, ml_if2 _ _ _⟩ ?_
  refine mb_l_cons ⟨mm_ald _ _, ml_ald _ _⟩ ?_
  refine mb_l_cons ⟨mm_ild _ _, ml_ild _ _⟩ ?_
  refine mb_l_cons ⟨mm_callv _ _ _ _ _, ml_callv _ _ _ _ _⟩ ?_
  refine mb_l_cons ⟨mm_ast _ _, ml_ast _ _⟩ ?_
  refine mb_l_cons ⟨mm_ald _ _, ml_ald _ _⟩ ?_
  refine mb_l_cons ⟨mm_ifn _ _, ml_ifn _ _⟩ ?_
  refine mb_l_cons ⟨mm_ald _ _, ml_ald _ _⟩ ?_
  refine mb_l_cons ⟨mm_ald _ _, ml_ald _ _⟩ ?_
  refine mb_l_cons ⟨mm_ald _ _, ml_ald _ _⟩ ?_
  refine mb_l_cons ⟨mm_callv _ _ _ _ _, ml_callv _ _ _ _ _⟩ ?_
  refine mb_l_cons ⟨mm_if1 _ _ _, ml_if1 _ _ _⟩ ?_
  refine mb_l_cons ⟨mm_iinc _ _ _, ml_iinc _ _ _⟩ ?_
  refine mb_l_cons ⟨mm_iinc _ _ _, ml_iinc _ _ _⟩ ?_
  refine mb_l_cons ⟨mm_go _, ml_go _⟩ ?_
  refine mb_l_cons ⟨mm_ild _ _, ml_ild _ _⟩ ?_
  refine mb_l_cons ⟨mm_iret, ml_iret⟩ ?_
  exact mb_l_nil
theorem mz_X7_moveNotes : ∀ pc i, mb_look mc_X7_moveNotes pc = some i → mb_Mon i ∧ mb_Le i := by
  unfold mc_X7_moveNotes
  refine mb_l_cons ⟨mm_push _ _, ml_push _ _⟩ ?_
  refine mb_l_cons ⟨mm_ist _ _, ml_ist _ _⟩ ?_
  refine mb_l_cons ⟨mm_ild _ _, ml_ild _ _⟩ ?_
  refine mb_l_cons ⟨mm_ald _ _, ml_ald _ _⟩ ?_
  refine mb_l_cons ⟨mm_getf _ _ _, ml_getf _ _ _⟩ ?_
  refine mb_l_cons ⟨mm_if2 _ _ _, ml_if2 _ _ _⟩ ?_
  refine mb_l_cons ⟨mm_ald _ _, ml_ald _ _⟩ ?_
  refine mb_l_cons ⟨mm_ild _ _, ml_ild _ _⟩ ?_
  refine mb_l_cons ⟨mm_callv _ _ _ _ _, ml_callv _ _ _ _ _⟩ ?_
  refine mb_l_cons ⟨mm_ast _ _, ml_ast _ _⟩ ?_
  refine mb_l_cons ⟨mm_ald _ _, ml_ald _ _⟩ ?_
  refine mb_l_cons ⟨mm_ifn _ _, ml_ifn _ _⟩ ?_
  refine mb_l_cons ⟨mm_ald _ _, ml_ald _ _⟩ ?_
  refine mb_l_cons ⟨mm_getf _ _ _, ml_getf _ _ _⟩ ?_
  refine mb_l_cons ⟨mm_ild _ _, ml_ild _ _⟩ ?_
  refine mb_l_cons ⟨mm_if2 _ _ _, ml_if2 _ _ _⟩ ?_
  refine mb_l_cons ⟨mm_ald _ _, ml_ald _ _⟩ ?_
  refine mb_l_cons ⟨mm_ild _ _, ml_ild _ _⟩ ?_
  refine mb_l_cons ⟨mm_ild _ _, ml_ild _ _⟩ ?_
  refine mb_l_cons ⟨mm_ild _ _, ml_ild _ _⟩ ?_
  refine mb_l_cons ⟨mm_callv _ _ _ _ _, ml_callv _ _ _ _ _⟩ ?_
  refine mb_l_cons ⟨mm_iinc _ _ _, ml_iinc _ _ _⟩ ?_
  refine mb_l_cons ⟨mm_go _, ml_go _⟩ ?_
  refine mb_l_cons ⟨mm_vret, ml_vret⟩ ?_
  exact mb_l_nil
theorem mz_X7_openNotesOfScene : ∀ pc i, mb_look mc_X7_openNotesOfScene pc = some i → mb_Mon i ∧ mb_Le i := by
  unfold mc_X7_openNotesOfScene
  refine mb_l_cons ⟨mm_push _ _, ml_push _ _⟩ ?_
  refine mb_l_cons ⟨mm_ist _ _, ml_ist _ _⟩ ?_
  refine mb_l_cons ⟨mm_push _ _, ml_push _ _⟩ ?_
  refine mb_l_cons ⟨mm_ist _ _, ml_ist _ _⟩ ?_
  refine mb_l_cons ⟨mm_ild _ _, ml_ild _ _⟩ ?_
  refine mb_l_cons ⟨mm_ald _ _, ml_ald _ _⟩ ?_
  refine mb_l_cons ⟨mm_getf _ _ _, ml_getf _ _ _⟩ ?_
  refine mb_l_cons ⟨mm_if2 _ _ _, ml_if2 _ _ _⟩ ?_
  refine mb_l_cons ⟨mm_ald _ _, ml_ald _ _⟩ ?_
  refine mb_l_cons ⟨mm_ild _ _, ml_ild _ _⟩ ?_
  refine mb_l_cons ⟨mm_callv _ _ _ _ _, ml_callv _ _ _ _ _⟩ ?_
  refine mb_l_cons ⟨mm_ast _ _, ml_ast _ _⟩ ?_
  refine mb_l_cons ⟨mm_ald _ _, ml_ald _ _⟩ ?_
  refine mb_l_cons ⟨mm_ifn _ _, ml_ifn _ _⟩ ?_
  refine mb_l_cons ⟨mm_ald _ _, ml_ald _ _⟩ ?_
  refine mb_l_cons ⟨mm_getf _ _ _, ml_getf _ _ _⟩ ?_
  refine mb_l_cons ⟨mm_if1 _ _ _, ml_if1 _ _ _⟩ ?_
  refine mb_l_cons ⟨mm_ald _ _, ml_ald _ _⟩ ?_
  refine mb_l_cons ⟨mm_getf _ _ _, ml_getf _ _ _⟩ ?_
  refine mb_l_cons ⟨mm_ild _ _, ml_ild _ _⟩ ?_
  refine mb_l_cons ⟨mm_if2 _ _ _, ml_if2 _ _ _⟩ ?_
  refine mb_l_cons ⟨mm_iinc _ _ _, ml_iinc _ _ _⟩ ?_
  refine mb_l_cons ⟨mm_iinc _ _ _, ml_iinc _ _ _⟩ ?_
  refine mb_l_cons ⟨mm_go _, ml_go _⟩ ?_
  refine mb_l_cons ⟨mm_ild _ _, ml_ild _ _⟩ ?_
  refine mb_l_cons ⟨mm_iret, ml_iret⟩ ?_
  exact mb_l_nil
theorem mz_X7_openNotesOfFrame : ∀ pc i, mb_look mc_X7_openNotesOfFrame pc = some i → mb_Mon i ∧ mb_Le i := by
  unfold mc_X7_openNotesOfFrame
  refine mb_l_cons ⟨mm_push _ _, ml_push _ _⟩ ?_
  refine mb_l_cons ⟨mm_ist _ _, ml_ist _ _⟩ ?_
  refine mb_l_cons ⟨mm_push _ _, ml_push _ _⟩ ?_
  refine mb_l_cons ⟨mm_ist _ _, ml_ist _ _⟩ ?_
  refine mb_l_cons ⟨mm_ild _ _, ml_ild _ _⟩ ?_
  refine mb_l_cons ⟨mm_ald _ _, ml_ald _ _⟩ ?_
  refine mb_l_cons ⟨mm_getf _ _ _, ml_getf _ _ _⟩ ?_
  refine mb_l_cons ⟨mm_if2 _ _ _, ml_if2 _ _ _⟩ ?_
  refine mb_l_cons ⟨mm_ald _ _, ml_ald _ _⟩ ?_
  refine mb_l_cons ⟨mm_ild _ _, ml_ild _ _⟩ ?_
  refine mb_l_cons ⟨mm_callv _ _ _ _ _, ml_callv _ _ _ _ _⟩ ?_
  refine mb_l_cons ⟨mm_ast _ _, ml_ast _ _⟩ ?_
  refine mb_l_cons ⟨mm_ald _ _, ml_ald _ _⟩ ?_
  refine mb_l_cons ⟨mm_ifn _ _, ml_ifn _ _⟩ ?_
  refine mb_l_cons ⟨mm_ald _ _, ml_ald _ _⟩ ?_
  refine mb_l_cons ⟨mm_getf _ _ _, ml_getf _ _ _⟩ ?_
  refine mb_l_cons ⟨mm_if1 _ _ _, ml_if1 _ _ _⟩ ?_
  refine mb_l_cons ⟨mm_ald _ _, ml_ald _ _⟩ ?_
  refine mb_l_cons ⟨mm_getf _ _ _, ml_getf _ _ _⟩ ?_
  refine mb_l_cons ⟨mm_ild _ _, ml_ild _ _⟩ ?_
  refine mb_l_cons ⟨mm_if2 _ _ _, ml_if2 _ _ _⟩ ?_
  refine mb_l_cons ⟨mm_ald _ _, ml_ald _ _⟩ ?_
  refine mb_l_cons ⟨mm_getf _ _ _, ml_getf _ _ _⟩ ?_
  refine mb_l_cons ⟨mm_ild _ _, ml_ild _ _⟩ ?_
  refine mb_l_cons ⟨mm_if2 _ _ _, ml_if2 _ _ _⟩ ?_
  refine mb_l_cons ⟨mm_iinc _ _ _, ml_iinc _ _ _⟩ ?_
  refine mb_l_cons ⟨mm_iinc _ _ _, ml_iinc _ _ _⟩ ?_
  refine mb_l_cons ⟨mm_go _, ml_go _⟩ ?_
  refine mb_l_cons ⟨mm_ild _ _, ml_ild _ _⟩ ?_
  refine mb_l_cons ⟨mm_iret, ml_iret⟩ ?_
  exact mb_l_nil
theorem mz_X7_scenesThatCast : ∀ pc i, mb_look mc_X7_scenesThatCast pc = some i → mb_Mon i ∧ mb_Le i := by
  unfold mc_X7_scenesThatCast
  refine mb_l_cons ⟨mm_push _ _, ml_push _ _⟩ ?_
  refine mb_l_cons ⟨mm_ist _ _, ml_ist _ _⟩ ?_
  refine mb_l_cons ⟨mm_push _ _, ml_push _ _⟩ ?_
  refine mb_l_cons ⟨mm_ist _ _, ml_ist _ _⟩ ?_
  refine mb_l_cons ⟨mm_ild _ _, ml_ild _ _⟩ ?_
  refine mb_l_cons ⟨mm_ald _ _, ml_ald _ _⟩ ?_
  refine mb_l_cons ⟨mm_getf _ _ _, ml_getf _ _ _⟩ ?_
  refine mb_l_cons ⟨mm_if2 _ _ _, ml_if2 _ _ _⟩ ?_
  refine mb_l_cons ⟨mm_ald _ _, ml_ald _ _⟩ ?_
  refine mb_l_cons ⟨mm_ild _ _, ml_ild _ _⟩ ?_
  refine mb_l_cons ⟨mm_callv _ _ _ _ _, ml_callv _ _ _ _ _⟩ ?_
  refine mb_l_cons ⟨mm_ast _ _, ml_ast _ _⟩ ?_
  refine mb_l_cons ⟨mm_ald _ _, ml_ald _ _⟩ ?_
  refine mb_l_cons ⟨mm_ifn _ _, ml_ifn _ _⟩ ?_
  refine mb_l_cons ⟨mm_ald _ _, ml_ald _ _⟩ ?_
  refine mb_l_cons ⟨mm_ild _ _, ml_ild _ _⟩ ?_
  refine mb_l_cons ⟨mm_callv _ _ _ _ _, ml_callv _ _ _ _ _⟩ ?_
  refine mb_l_cons ⟨mm_ifn _ _, ml_ifn _ _⟩ ?_
  refine mb_l_cons ⟨mm_iinc _ _ _, ml_iinc _ _ _⟩ ?_
  refine mb_l_cons ⟨mm_iinc _ _ _, ml_iinc _ _ _⟩ ?_
  refine mb_l_cons ⟨mm_go _, ml_go _⟩ ?_
  refine mb_l_cons ⟨mm_ild _ _, ml_ild _ _⟩ ?_
  refine mb_l_cons ⟨mm_iret, ml_iret⟩ ?_
  exact mb_l_nil
theorem mz_X7_allVersions : ∀ pc i, mb_look mc_X7_allVersions pc = some i → mb_Mon i ∧ mb_Le i := by
  unfold mc_X7_allVersions
  refine mb_l_cons ⟨mm_push _ _, ml_push _ _⟩ ?_
  refine mb_l_cons ⟨mm_ist _ _, ml_ist _ _⟩ ?_
  refine mb_l_cons ⟨mm_push _ _, ml_push _ _⟩ ?_
  refine mb_l_cons ⟨mm_ist _ _, ml_ist _ _⟩ ?_
  refine mb_l_cons ⟨mm_ild _ _, ml_ild _ _⟩ ?_
  refine mb_l_cons ⟨mm_ald _ _, ml_ald _ _⟩ ?_
  refine mb_l_cons ⟨mm_getf _ _ _, ml_getf _ _ _⟩ ?_
  refine mb_l_cons ⟨mm_if2 _ _ _, ml_if2 _ _ _⟩ ?_
  refine mb_l_cons ⟨mm_ald _ _, ml_ald _ _⟩ ?_
  refine mb_l_cons ⟨mm_ild _ _, ml_ild _ _⟩ ?_
  refine mb_l_cons ⟨mm_callv _ _ _ _ _, ml_callv _ _ _ _ _⟩ ?_
  refine mb_l_cons ⟨mm_ast _ _, ml_ast _ _⟩ ?_
  refine mb_l_cons ⟨mm_ald _ _, ml_ald _ _⟩ ?_
  refine mb_l_cons ⟨mm_ifn _ _, ml_ifn _ _⟩ ?_
  refine mb_l_cons ⟨mm_ild _ _, ml_ild _ _⟩ ?_
  refine mb_l_cons ⟨mm_ald _ _, ml_ald _ _⟩ ?_
  refine mb_l_cons ⟨mm_getf _ _ _, ml_getf _ _ _⟩ ?_
  refine mb_l_cons ⟨mm_iadd _, ml_iadd _⟩ ?_
  refine mb_l_cons ⟨mm_ist _ _, ml_ist _ _⟩ ?_
  refine mb_l_cons ⟨mm_iinc _ _ _, ml_iinc _ _ _⟩ ?_
  refine mb_l_cons ⟨mm_go _, ml_go _⟩ ?_
  refine mb_l_cons ⟨mm_ild _ _, ml_ild _ _⟩ ?_
  refine mb_l_cons ⟨mm_iret, ml_iret⟩ ?_
  exact mb_l_nil
theorem mz_X7_allFrames : ∀ pc i, mb_look mc_X7_allFrames pc = some i → mb_Mon i ∧ mb_Le i := by
  unfold mc_X7_allFrames
  refine mb_l_cons ⟨mm_push _ _, ml_push _ _⟩ ?_
  refine mb_l_cons ⟨mm_ist _ _, ml_ist _ _⟩ ?_
  refine mb_l_cons ⟨mm_push _ _, ml_push _ _⟩ ?_
  refine mb_l_cons ⟨mm_ist _ _, ml_ist _ _⟩ ?_
  refine mb_l_cons ⟨mm_ild _ _, ml_ild _ _⟩ ?_
  refine mb_l_cons ⟨mm_ald _ _, ml_ald _ _⟩ ?_
  refine mb_l_cons ⟨mm_getf _ _ _, ml_getf _ _ _⟩ ?_
  refine mb_l_cons ⟨mm_if2 _ _ _, ml_if2 _ _ _⟩ ?_
  refine mb_l_cons ⟨mm_ald _ _, ml_ald _ _⟩ ?_
  refine mb_l_cons ⟨mm_ild _ _, ml_ild _ _⟩ ?_
  refine mb_l_cons ⟨mm_callv _ _ _ _ _, ml_callv _ _ _ _ _⟩ ?_
  refine mb_l_cons ⟨mm_ast _ _, ml_ast _ _⟩ ?_
  refine mb_l_cons ⟨mm_ald _ _, ml_ald _ _⟩ ?_
  refine mb_l_cons ⟨mm_ifn _ _, ml_ifn _ _⟩ ?_
  refine mb_l_cons ⟨mm_ild _ _, ml_ild _ _⟩ ?_
  refine mb_l_cons ⟨mm_ald _ _, ml_ald _ _⟩ ?_
  refine mb_l_cons ⟨mm_getf _ _ _, ml_getf _ _ _⟩ ?_
  refine mb_l_cons ⟨mm_iadd _, ml_iadd _⟩ ?_
  refine mb_l_cons ⟨mm_ist _ _, ml_ist _ _⟩ ?_
  refine mb_l_cons ⟨mm_iinc _ _ _, ml_iinc _ _ _⟩ ?_
  refine mb_l_cons ⟨mm_go _, ml_go _⟩ ?_
  refine mb_l_cons ⟨mm_ild _ _, ml_ild _ _⟩ ?_
  refine mb_l_cons ⟨mm_iret, ml_iret⟩ ?_
  exact mb_l_nil
theorem mz_X7_allStaleFrames : ∀ pc i, mb_look mc_X7_allStaleFrames pc = some i → mb_Mon i ∧ mb_Le i := by
  unfold mc_X7_allStaleFrames
  refine mb_l_cons ⟨mm_push _ _, ml_push _ _⟩ ?_
  refine mb_l_cons ⟨mm_ist _ _, ml_ist _ _⟩ ?_
  refine mb_l_cons ⟨mm_push _ _, ml_push _ _⟩ ?_
  refine mb_l_cons ⟨mm_ist _ _, ml_ist _ _⟩ ?_
  refine mb_l_cons ⟨mm_ild _ _, ml_ild _ _⟩ ?_
  refine mb_l_cons ⟨mm_ald _ _, ml_ald _ _⟩ ?_
  refine mb_l_cons ⟨mm_getf _ _ _, ml_getf _ _ _⟩ ?_
  refine mb_l_cons ⟨mm_if2 _ _ _, ml_if2 _ _ _⟩ ?_
  refine mb_l_cons ⟨mm_ald _ _, ml_ald _ _⟩ ?_
  refine mb_l_cons ⟨mm_ild _ _, ml_ild _ _⟩ ?_
  refine mb_l_cons ⟨mm_callv _ _ _ _ _, ml_callv _ _ _ _ _⟩ ?_
  refine mb_l_cons ⟨mm_ast _ _, ml_ast _ _⟩ ?_
  refine mb_l_cons ⟨mm_ald _ _, ml_ald _ _⟩ ?_
  refine mb_l_cons ⟨mm_ifn _ _, ml_ifn _ _⟩ ?_
  refine mb_l_cons ⟨mm_ild _ _, ml_ild _ _⟩ ?_
  refine mb_l_cons ⟨mm_ald _ _, ml_ald _ _⟩ ?_
  refine mb_l_cons ⟨mm_ald _ _, ml_ald _ _⟩ ?_
  refine mb_l_cons ⟨mm_callv _ _ _ _ _, ml_callv _ _ _ _ _⟩ ?_
  refine mb_l_cons ⟨mm_iadd _, ml_iadd _⟩ ?_
  refine mb_l_cons ⟨mm_ist _ _, ml_ist _ _⟩ ?_
  refine mb_l_cons ⟨mm_iinc _ _ _, ml_iinc _ _ _⟩ ?_
  refine mb_l_cons ⟨mm_go _, ml_go _⟩ ?_
  refine mb_l_cons ⟨mm_ild _ _, ml_ild _ _⟩ ?_
  refine mb_l_cons ⟨mm_iret, ml_iret⟩ ?_
  exact mb_l_nil
theorem mz_X7_allOpenNotes : ∀ pc i, mb_look mc_X7_allOpenNotes pc = some i → mb_Mon i ∧ mb_Le i := by
  unfold mc_X7_allOpenNotes
  refine mb_l_cons ⟨mm_push _ _, ml_push _ _⟩ ?_
  refine mb_l_cons ⟨mm_ist _ _, ml_ist _ _⟩ ?_
  refine mb_l_cons ⟨mm_push _ _, ml_push _ _⟩ ?_
  refine mb_l_cons ⟨mm_ist _ _, ml_ist _ _⟩ ?_
  refine mb_l_cons ⟨mm_ild _ _, ml_ild _ _⟩ ?_
  refine mb_l_cons ⟨mm_ald _ _, ml_ald _ _⟩ ?_
  refine mb_l_cons ⟨mm_getf _ _ _, ml_getf _ _ _⟩ ?_
  refine mb_l_cons ⟨mm_if2 _ _ _, ml_if2 _ _ _⟩ ?_
  refine mb_l_cons ⟨mm_ald _ _, ml_ald _ _⟩ ?_
  refine mb_l_cons ⟨mm_ild _ _, ml_ild _ _⟩ ?_
  refine mb_l_cons ⟨mm_callv _ _ _ _ _, ml_callv _ _ _ _ _⟩ ?_
  refine mb_l_cons ⟨mm_ast _ _, ml_ast _ _⟩ ?_
  refine mb_l_cons ⟨mm_ald _ _, ml_ald _ _⟩ ?_
  refine mb_l_cons ⟨mm_ifn _ _, ml_ifn _ _⟩ ?_
  refine mb_l_cons ⟨mm_ald _ _, ml_ald _ _⟩ ?_
  refine mb_l_cons ⟨mm_getf _ _ _, ml_getf _ _ _⟩ ?_
  refine mb_l_cons ⟨mm_if1 _ _ _, ml_if1 _ _ _⟩ ?_
  refine mb_l_cons ⟨mm_iinc _ _ _, ml_iinc _ _ _⟩ ?_
  refine mb_l_cons ⟨mm_iinc _ _ _, ml_iinc _ _ _⟩ ?_
  refine mb_l_cons ⟨mm_go _, ml_go _⟩ ?_
  refine mb_l_cons ⟨mm_ild _ _, ml_ild _ _⟩ ?_
  refine mb_l_cons ⟨mm_iret, ml_iret⟩ ?_
  exact mb_l_nil
theorem mz_J9_floorDiv_7cf53 : ∀ pc i, mb_look mc_J9_floorDiv_7cf53 pc = some i → mb_Mon i ∧ mb_Le i := by
  unfold mc_J9_floorDiv_7cf53
  refine mb_l_cons ⟨mm_ild _ _, ml_ild _ _⟩ ?_
  refine mb_l_cons ⟨mm_ild _ _, ml_ild _ _⟩ ?_
  refine mb_l_cons ⟨mm_idiv _, ml_idiv _⟩ ?_
  refine mb_l_cons ⟨mm_ist _ _, ml_ist _ _⟩ ?_
  refine mb_l_cons ⟨mm_ild _ _, ml_ild _ _⟩ ?_
  refine mb_l_cons ⟨mm_ild _ _, ml_ild _ _⟩ ?_
  refine mb_l_cons ⟨mm_ixor _, ml_ixor _⟩ ?_
  refine mb_l_cons ⟨mm_if1 _ _ _, ml_if1 _ _ _⟩ ?_
  refine mb_l_cons ⟨mm_ild _ _, ml_ild _ _⟩ ?_
  refine mb_l_cons ⟨mm_ild _ _, ml_ild _ _⟩ ?_
  refine mb_l_cons ⟨mm_imul _, ml_imul _⟩ ?_
  refine mb_l_cons ⟨mm_ild _ _, ml_ild _ _⟩ ?_
  refine mb_l_cons ⟨mm_if2 _ _ _, ml_if2 _ _ _⟩ ?_
  refine mb_l_cons ⟨mm_ild _ _, ml_ild _ _⟩ ?_
  refine mb_l_cons ⟨mm_push _ _, ml_push _ _⟩ ?_
  refine mb_l_cons ⟨mm_isub _, ml_isub _⟩ ?_
  refine mb_l_cons ⟨mm_iret, ml_iret⟩ ?_
  refine mb_l_cons ⟨mm_ild _ _, ml_ild _ _⟩ ?_
  refine mb_l_cons ⟨mm_iret, ml_iret⟩ ?_
  exact mb_l_nil
theorem mz_L_call : ∀ pc i, mb_look mc_L_call pc = some i → mb_Mon i ∧ mb_Le i := by
  unfold mc_L_call
  refine mb_l_cons ⟨mm_ild _ _, ml_ild _ _⟩ ?_
  refine mb_l_cons ⟨mm_tsw _ _, ml_tsw _ _⟩ ?_
  refine mb_l_cons ⟨mm_ald _ _, ml_ald _ _⟩ ?_
  refine mb_l_cons ⟨mm_ild _ _, ml_ild _ _⟩ ?_
  refine mb_l_cons ⟨mm_ild _ _, ml_ild _ _⟩ ?_
  refine mb_l_cons ⟨mm_callvp _ _ _ _, ml_callvp _ _ _ _⟩ ?_
  refine mb_l_cons ⟨mm_iret, ml_iret⟩ ?_
  refine mb_l_cons ⟨mm_ald _ _, ml_ald _ _⟩ ?_
  refine mb_l_cons ⟨mm_ild _ _, ml_ild _ _⟩ ?_
  refine mb_l_cons ⟨mm_ild _ _, ml_ild _ _⟩ ?_
  refine mb_l_cons ⟨mm_ild _ _, ml_ild _ _⟩ ?_
  refine mb_l_cons ⟨mm_ild _ _, ml_ild _ _⟩ ?_
  refine mb_l_cons ⟨mm_ild _ _, ml_ild _ _⟩ ?_
  refine mb_l_cons ⟨mm_callvp _ _ _ _, ml_callvp _ _ _ _⟩ ?_
  refine mb_l_cons ⟨mm_iret, ml_iret⟩ ?_
  refine mb_l_cons ⟨mm_ald _ _, ml_ald _ _⟩ ?_
  refine mb_l_cons ⟨mm_ild _ _, ml_ild _ _⟩ ?_
  refine mb_l_cons ⟨mm_ild _ _, ml_ild _ _⟩ ?_
  refine mb_l_cons ⟨mm_ild _ _, ml_ild _ _⟩ ?_
  refine mb_l_cons ⟨mm_callvp _ _ _ _, ml_callvp _ _ _ _⟩ ?_
  refine mb_l_cons ⟨mm_if1 _ _ _, ml_if1 _ _ _⟩ ?_
  refine mb_l_cons ⟨mm_push _ _, ml_push _ _⟩ ?_
  refine mb_l_cons ⟨mm_go _, ml_go _⟩ ?_
  refine mb_l_cons ⟨mm_push _ _, ml_push _ _⟩ ?_
  refine mb_l_cons ⟨mm_iret, ml_iret⟩ ?_
  refine mb_l_cons ⟨mm_ald _ _, ml_ald _ _⟩ ?_
  refine mb_l_cons ⟨mm_ild _ _, ml_ild _ _⟩ ?_
  refine mb_l_cons ⟨mm_callvp _ _ _ _, ml_callvp _ _ _ _⟩ ?_
  refine mb_l_cons ⟨mm_iret, ml_iret⟩ ?_
  refine mb_l_cons ⟨mm_ald _ _, ml_ald _ _⟩ ?_
  refine mb_l_cons ⟨mm_ild _ _, ml_ild _ _⟩ ?_
  refine mb_l_cons ⟨mm_ild _ _, ml_ild _ _⟩ ?_
  refine mb_l_cons ⟨mm_ild _ _, ml_ild _ _⟩ ?_
  refine mb_l_cons ⟨mm_ild _ _, ml_ild _ _⟩ ?_
  refine mb_l_cons ⟨mm_ild _ _, ml_ild _ _⟩ ?_
  refine mb_l_cons ⟨mm_callvp _ _ _ _, ml_callvp _ _ _ _⟩ ?_
  refine mb_l_cons ⟨mm_iret, ml_iret⟩ ?_
  refine mb_l_cons ⟨mm_ald _ _, ml_ald _ _⟩ ?_
  refine mb_l_cons ⟨mm_ild _ _, ml_ild _ _⟩ ?_
  refine mb_l_cons ⟨mm_ild _ _, ml_ild _ _⟩ ?_
  refine mb_l_cons ⟨mm_ild _ _, ml_ild _ _⟩ ?_
  refine mb_l_cons ⟨mm_callvp _ _ _ _, ml_callvp _ _ _ _⟩ ?_
  refine mb_l_cons ⟨mm_iret, ml_iret⟩ ?_
  refine mb_l_cons ⟨mm_ald _ _, ml_ald _ _⟩ ?_
  refine mb_l_cons ⟨mm_ild _ _, ml_ild _ _⟩ ?_
  refine mb_l_cons ⟨mm_ild _ _, ml_ild _ _⟩ ?_
  refine mb_l_cons ⟨mm_callvp _ _ _ _, ml_callvp _ _ _ _⟩ ?_
  refine mb_l_cons ⟨mm_iret, ml_iret⟩ ?_
  refine mb_l_cons ⟨mm_ald _ _, ml_ald _ _⟩ ?_
  refine mb_l_cons ⟨mm_ild _ _, ml_ild _ _⟩ ?_
  refine mb_l_cons ⟨mm_callvp _ _ _ _, ml_callvp _ _ _ _⟩ ?_
  refine mb_l_cons ⟨mm_iret, ml_iret⟩ ?_
  refine mb_l_cons ⟨mm_ald _ _, ml_ald _ _⟩ ?_
  refine mb_l_cons ⟨mm_ild _ _, ml_ild _ _⟩ ?_
  refine mb_l_cons ⟨mm_ild _ _, ml_ild _ _⟩ ?_
  refine mb_l_cons ⟨mm_callvp _ _ _ _, ml_callvp _ _ _ _⟩ ?_
  refine mb_l_cons ⟨mm_if1 _ _ _, ml_if1 _ _ _⟩ ?_
  refine mb_l_cons ⟨mm_push _ _, ml_push _ _⟩ ?_
  refine mb_l_cons ⟨mm_go _, ml_go _⟩ ?_
  refine mb_l_cons ⟨mm_push _ _, ml_push _ _⟩ ?_
  refine mb_l_cons ⟨mm_iret, ml_iret⟩ ?_
  exact mb_l_nil
theorem mz_L_ask : ∀ pc i, mb_look mc_L_ask pc = some i → mb_Mon i ∧ mb_Le i := by
  unfold mc_L_ask
  refine mb_l_cons ⟨mm_ald _ _, ml_ald _ _⟩ ?_
  refine mb_l_cons ⟨mm_ild _ _, ml_ild _ _⟩ ?_
  refine mb_l_cons ⟨mm_ild _ _, ml_ild _ _⟩ ?_
  refine mb_l_cons ⟨mm_ild _ _, ml_ild _ _⟩ ?_
  refine mb_l_cons ⟨mm_ild _ _, ml_ild _ _⟩ ?_
  refine mb_l_cons ⟨mm_ild _ _, ml_ild _ _⟩ ?_
  refine mb_l_cons ⟨mm_ild _ _, ml_ild _ _⟩ ?_
  refine mb_l_cons ⟨mm_callsx _ _ _ _, ml_callsx _ _ _ _⟩ ?_
  refine mb_l_cons ⟨mm_iret, ml_iret⟩ ?_
  refine mb_l_cons ⟨mm_ast _ _, ml_ast _ _⟩ ?_
  refine mb_l_cons ⟨mm_push _ _, ml_push _ _⟩ ?_
  refine mb_l_cons ⟨mm_iret, ml_iret⟩ ?_
  refine mb_l_cons ⟨mm_ast _ _, ml_ast _ _⟩ ?_
  refine mb_l_cons ⟨mm_push _ _, ml_push _ _⟩ ?_
  refine mb_l_cons ⟨mm_iret, ml_iret⟩ ?_
  refine mb_l_cons ⟨mm_ast _ _, ml_ast _ _⟩ ?_
  refine mb_l_cons ⟨mm_push _ _, ml_push _ _⟩ ?_
  refine mb_l_cons ⟨mm_iret, ml_iret⟩ ?_
  exact mb_l_nil
theorem mz_L_draw : ∀ pc i, mb_look mc_L_draw pc = some i → mb_Mon i ∧ mb_Le i := by
  unfold mc_L_draw
  refine mb_l_cons ⟨mm_ild _ _, ml_ild _ _⟩ ?_
  refine mb_l_cons ⟨mm_ald _ _, ml_ald _ _⟩ ?_
  refine mb_l_cons ⟨mm_alen _, ml_alen _⟩ ?_
  refine mb_l_cons ⟨mm_if2 _ _ _, ml_if2 _ _ _⟩ ?_
  refine mb_l_cons ⟨mm_ald _ _, ml_ald _ _⟩ ?_
  refine mb_l_cons ⟨mm_ild _ _, ml_ild _ _⟩ ?_
  refine mb_l_cons ⟨mm_iald _, ml_iald _⟩ ?_
  refine mb_l_cons ⟨mm_go _, ml_go _⟩ ?_
  refine mb_l_cons ⟨mm_push _ _, ml_push _ _⟩ ?_
  refine mb_l_cons ⟨mm_ild _ _, ml_ild _ _⟩ ?_
  refine mb_l_cons ⟨mm_imul _, ml_imul _⟩ ?_
  refine mb_l_cons ⟨mm_ild _ _, ml_ild _ _⟩ ?_
  refine mb_l_cons ⟨mm_imul _, ml_imul _⟩ ?_
  refine mb_l_cons ⟨mm_push _ _, ml_push _ _⟩ ?_
  refine mb_l_cons ⟨mm_ild _ _, ml_ild _ _⟩ ?_
  refine mb_l_cons ⟨mm_imul _, ml_imul _⟩ ?_
  refine mb_l_cons ⟨mm_iadd _, ml_iadd _⟩ ?_
  refine mb_l_cons ⟨mm_push _ _, ml_push _ _⟩ ?_
  refine mb_l_cons ⟨mm_iadd _, ml_iadd _⟩ ?_
  refine mb_l_cons ⟨mm_iret, ml_iret⟩ ?_
  exact mb_l_nil
theorem mz_L_poses : ∀ pc i, mb_look mc_L_poses pc = some i → mb_Mon i ∧ mb_Le i := by
  unfold mc_L_poses
  refine mb_l_cons ⟨mm_push _ _, ml_push _ _⟩ ?_
  refine mb_l_cons ⟨mm_ist _ _, ml_ist _ _⟩ ?_
  refine mb_l_cons ⟨mm_push _ _, ml_push _ _⟩ ?_
  refine mb_l_cons ⟨mm_ist _ _, ml_ist _ _⟩ ?_
  refine mb_l_cons ⟨mm_ild _ _, ml_ild _ _⟩ ?_
  refine mb_l_cons ⟨mm_ild _ _, ml_ild _ _⟩ ?_
  refine mb_l_cons ⟨mm_if2 _ _ _, ml_if2 _ _ _⟩ ?_
  refine mb_l_cons ⟨mm_push _ _, ml_push _ _⟩ ?_
  refine mb_l_cons ⟨mm_ist _ _, ml_ist _ _⟩ ?_
  refine mb_l_cons ⟨mm_ild _ _, ml_ild _ _⟩ ?_
  refine mb_l_cons ⟨mm_push _ _, ml_push _ _⟩ ?_
  refine mb_l_cons ⟨mm_if2 _ _ _, ml_if2 _ _ _⟩ ?_
  refine mb_l_cons ⟨mm_push _ _, ml_push _ _⟩ ?_
  refine mb_l_cons ⟨mm_ild _ _, ml_ild _ _⟩ ?_
  refine mb_l_cons ⟨mm_imul _, ml_imul _⟩ ?_
  refine mb_l_cons ⟨mm_ald _ _, ml_ald _ _⟩ ?_
  refine mb_l_cons ⟨mm_ild _ _, ml_ild _ _⟩ ?_
  refine mb_l_cons ⟨mm_ild _ _, ml_ild _ _⟩ ?_
  refine mb_l_cons ⟨mm_ild _ _, ml_ild _ _⟩ ?_
  refine mb_l_cons ⟨mm_ild _ _, ml_ild _ _⟩ ?_
  refine mb_l_cons ⟨mm_callv _ _ _ _ _, ml_callv _ _ _ _ _⟩ ?_
  refine mb_l_cons ⟨mm_iadd _, ml_iadd _⟩ ?_
  refine mb_l_cons ⟨mm_ist _ _, ml_ist _ _⟩ ?_
  refine mb_l_cons ⟨mm_iinc _ _ _, ml_iinc _ _ _⟩ ?_
  refine mb_l_cons ⟨mm_go _, ml_go _⟩ ?_
  refine mb_l_cons ⟨mm_iinc _ _ _, ml_iinc _ _ _⟩ ?_
  refine mb_l_cons ⟨mm_go _, ml_go _⟩ ?_
  refine mb_l_cons ⟨mm_ild _ _, ml_ild _ _⟩ ?_
  refine mb_l_cons ⟨mm_iret, ml_iret⟩ ?_
  exact mb_l_nil
theorem mz_L_areFrames : ∀ pc i, mb_look mc_L_areFrames pc = some i → mb_Mon i ∧ mb_Le i := by
  unfold mc_L_areFrames
  refine mb_l_cons ⟨mm_push _ _, ml_push _ _⟩ ?_
  refine mb_l_cons ⟨mm_ist _ _, ml_ist _ _⟩ ?_
  refine mb_l_cons ⟨mm_push _ _, ml_push _ _⟩ ?_
  refine mb_l_cons ⟨mm_ist _ _, ml_ist _ _⟩ ?_
  refine mb_l_cons ⟨mm_push _ _, ml_push _ _⟩ ?_
  refine mb_l_cons ⟨mm_ist _ _, ml_ist _ _⟩ ?_
  refine mb_l_cons ⟨mm_push _ _, ml_push _ _⟩ ?_
  refine mb_l_cons ⟨mm_ist _ _, ml_ist _ _⟩ ?_
  refine mb_l_cons ⟨mm_push _ _, ml_push _ _⟩ ?_
  refine mb_l_cons ⟨mm_ist _ _, ml_ist _ _⟩ ?_
  refine mb_l_cons ⟨mm_ild _ _, ml_ild _ _⟩ ?_
  refine mb_l_cons ⟨mm_ild _ _, ml_ild _ _⟩ ?_
  refine mb_l_cons ⟨mm_if2 _ _ _, ml_if2 _ _ _⟩ ?_
  refine mb_l_cons ⟨mm_ild _ _, ml_ild _ _⟩ ?_
  refine mb_l_cons ⟨mm_if1 _ _ _, ml_if1 _ _ _⟩ ?_
  refine mb_l_cons ⟨mm_ald _ _, ml_ald _ _⟩ ?_
  refine mb_l_cons ⟨mm_ild _ _, ml_ild _ _⟩ ?_
  refine mb_l_cons ⟨mm_ild _ _, ml_ild _ _⟩ ?_
  refine mb_l_cons ⟨mm_push _ _, ml_push _ _⟩ ?_
  refine mb_l_cons ⟨mm_callv _ _ _ _ _, ml_callv _ _ _ _ _⟩ ?_
  refine mb_l_cons ⟨mm_ist _ _, ml_ist _ _⟩ ?_
  refine mb_l_cons ⟨mm_ald _ _, ml_ald _ _⟩ ?_
  refine mb_l_cons ⟨mm_ild _ _, ml_ild _ _⟩ ?_
  refine mb_l_cons ⟨mm_ild _ _, ml_ild _ _⟩ ?_
  refine mb_l_cons ⟨mm_push _ _, ml_push _ _⟩ ?_
  refine mb_l_cons ⟨mm_callv _ _ _ _ _, ml_callv _ _ _ _ _⟩ ?_
  refine mb_l_cons ⟨mm_ist _ _, ml_ist _ _⟩ ?_
  refine mb_l_cons ⟨mm_ild _ _, ml_ild _ _⟩ ?_
  refine mb_l_cons ⟨mm_ald _ _, ml_ald _ _⟩ ?_
  refine mb_l_cons ⟨mm_ild _ _, ml_ild _ _⟩ ?_
  refine mb_l_cons ⟨mm_ild _ _, ml_ild _ _⟩ ?_
  refine mb_l_cons ⟨mm_push _ _, ml_push _ _⟩ ?_
  refine mb_l_cons ⟨mm_callv _ _ _ _ _, ml_callv _ _ _ _ _⟩ ?_
  refine mb_l_cons ⟨mm_iadd _, ml_iadd _⟩ ?_
  refine mb_l_cons ⟨mm_ist _ _, ml_ist _ _⟩ ?_
  refine mb_l_cons ⟨mm_ild _ _, ml_ild _ _⟩ ?_
  refine mb_l_cons ⟨mm_ald _ _, ml_ald _ _⟩ ?_
  refine mb_l_cons ⟨mm_ild _ _, ml_ild _ _⟩ ?_
  refine mb_l_cons ⟨mm_ild _ _, ml_ild _ _⟩ ?_
  refine mb_l_cons ⟨mm_push _ _, ml_push _ _⟩ ?_
  refine mb_l_cons ⟨mm_callv _ _ _ _ _, ml_callv _ _ _ _ _⟩ ?_
  refine mb_l_cons ⟨mm_iadd _, ml_iadd _⟩ ?_
  refine mb_l_cons ⟨mm_ist _ _, ml_ist _ _⟩ ?_
  refine mb_l_cons ⟨mm_ild _ _, ml_ild _ _⟩ ?_
  refine mb_l_cons ⟨mm_ild _ _, ml_ild _ _⟩ ?_
  refine mb_l_cons ⟨mm_if2 _ _ _, ml_if2 _ _ _⟩ ?_
  refine mb_l_cons ⟨mm_ild _ _, ml_ild _ _⟩ ?_
  refine mb_l_cons ⟨mm_push _ _, ml_push _ _⟩ ?_
  refine mb_l_cons ⟨mm_if2 _ _ _, ml_if2 _ _ _⟩ ?_
  refine mb_l_cons ⟨mm_ild _ _, ml_ild _ _⟩ ?_
  refine mb_l_cons ⟨mm_if1 _ _ _, ml_if1 _ _ _⟩ ?_
  refine mb_l_cons ⟨mm_push _ _, ml_push _ _⟩ ?_
  refine mb_l_cons ⟨mm_go _, ml_go _⟩ ?_
  refine mb_l_cons ⟨mm_push _ _, ml_push _ _⟩ ?_
  refine mb_l_cons ⟨mm_ald _ _, ml_ald _ _⟩ ?_
  refine mb_l_cons ⟨mm_ild _ _, ml_ild _ _⟩ ?_
  refine mb_l_cons ⟨mm_ild _ _, ml_ild _ _⟩ ?_
  refine mb_l_cons ⟨mm_push _ _, ml_push _ _⟩ ?_
  refine mb_l_cons ⟨mm_callv _ _ _ _ _, ml_callv _ _ _ _ _⟩ ?_
  refine mb_l_cons ⟨mm_push _ _, ml_push _ _⟩ ?_
  refine mb_l_cons ⟨mm_if2 _ _ _, ml_if2 _ _ _⟩ ?_
  refine mb_l_cons ⟨mm_push _ _, ml_push _ _⟩ ?_
  refine mb_l_cons ⟨mm_go _, ml_go _⟩ ?_
  refine mb_l_cons ⟨mm_push _ _, ml_push _ _⟩ ?_
  refine mb_l_cons ⟨mm_if2 _ _ _, ml_if2 _ _ _⟩ ?_
  refine mb_l_cons ⟨mm_ild _ _, ml_ild _ _⟩ ?_
  refine mb_l_cons ⟨mm_if1 _ _ _, ml_if1 _ _ _⟩ ?_
  refine mb_l_cons ⟨mm_ald _ _, ml_ald _ _⟩ ?_
  refine mb_l_cons ⟨mm_ild _ _, ml_ild _ _⟩ ?_
  refine mb_l_cons ⟨mm_ild _ _, ml_ild _ _⟩ ?_
  refine mb_l_cons ⟨mm_push _ _, ml_push _ _⟩ ?_
  refine mb_l_cons ⟨mm_callv _ _ _ _ _, ml_callv _ _ _ _ _⟩ ?_
  refine mb_l_cons ⟨mm_push _ _, ml_push _ _⟩ ?_
  refine mb_l_cons ⟨mm_if2 _ _ _, ml_if2 _ _ _⟩ ?_
  refine mb_l_cons ⟨mm_ald _ _, ml_ald _ _⟩ ?_
  refine mb_l_cons ⟨mm_ild _ _, ml_ild _ _⟩ ?_
  refine mb_l_cons ⟨mm_ild _ _, ml_ild _ _⟩ ?_
  refine mb_l_cons ⟨mm_push _ _, ml_push _ _⟩ ?_
  refine mb_l_cons ⟨mm_callv _ _ _ _ _, ml_callv _ _ _ _ _⟩ ?_
  refine mb_l_cons ⟨mm_push _ _, ml_push _ _⟩ ?_
  refine mb_l_cons ⟨mm_if2 _ _ _, ml_if2 _ _ _⟩ ?_
  refine mb_l_cons ⟨mm_push _ _, ml_push _ _⟩ ?_
  refine mb_l_cons ⟨mm_go _, ml_go _⟩ ?_
  refine mb_l_cons ⟨mm_push _ _, ml_push _ _⟩ ?_
  refine mb_l_cons ⟨mm_ist _ _, ml_ist _ _⟩ ?_
  refine mb_l_cons ⟨mm_push _ _, ml_push _ _⟩ ?_
  refine mb_l_cons ⟨mm_ist _ _, ml_ist _ _⟩ ?_
  refine mb_l_cons ⟨mm_ild _ _, ml_ild _ _⟩ ?_
  refine mb_l_cons ⟨mm_push _ _, ml_push _ _⟩ ?_
  refine mb_l_cons ⟨mm_if2 _ _ _, ml_if2 _ _ _⟩ ?_
  refine mb_l_cons ⟨mm_ild _ _, ml_ild _ _⟩ ?_
  refine mb_l_cons ⟨mm_if1 _ _ _, ml_if1 _ _ _⟩ ?_
  refine mb_l_cons ⟨mm_ald _ _, ml_ald _ _⟩ ?_
  refine mb_l_cons ⟨mm_ild _ _, ml_ild _ _⟩ ?_
  refine mb_l_cons ⟨mm_ild _ _, ml_ild _ _⟩ ?_
  refine mb_l_cons ⟨mm_ild _ _, ml_ild _ _⟩ ?_
  refine mb_l_cons ⟨mm_callv _ _ _ _ _, ml_callv _ _ _ _ _⟩ ?_
  refine mb_l_cons ⟨mm_ist _ _, ml_ist _ _⟩ ?_
  refine mb_l_cons ⟨mm_ild _ _, ml_ild _ _⟩ ?_
  refine mb_l_cons ⟨mm_push _ _, ml_push _ _⟩ ?_
  refine mb_l_cons ⟨mm_if2 _ _ _, ml_if2 _ _ _⟩ ?_
  refine mb_l_cons ⟨mm_ild _ _, ml_ild _ _⟩ ?_
  refine mb_l_cons ⟨mm_ald _ _, ml_ald _ _⟩ ?_
  refine mb_l_cons ⟨mm_ild _ _, ml_ild _ _⟩ ?_
  refine mb_l_cons ⟨mm_push _ _, ml_push _ _⟩ ?_
  refine mb_l_cons ⟨mm_callv _ _ _ _ _, ml_callv _ _ _ _ _⟩ ?_
  refine mb_l_cons ⟨mm_if2 _ _ _, ml_if2 _ _ _⟩ ?_
  refine mb_l_cons ⟨mm_ild _ _, ml_ild _ _⟩ ?_
  refine mb_l_cons ⟨mm_if1 _ _ _, ml_if1 _ _ _⟩ ?_
  refine mb_l_cons ⟨mm_ild _ _, ml_ild _ _⟩ ?_
  refine mb_l_cons ⟨mm_push _ _, ml_push _ _⟩ ?_
  refine mb_l_cons ⟨mm_if2 _ _ _, ml_if2 _ _ _⟩ ?_
  refine mb_l_cons ⟨mm_push _ _, ml_push _ _⟩ ?_
  refine mb_l_cons ⟨mm_go _, ml_go _⟩ ?_
  refine mb_l_cons ⟨mm_push _ _, ml_push _ _⟩ ?_
  refine mb_l_cons ⟨mm_ist _ _, ml_ist _ _⟩ ?_
  refine mb_l_cons ⟨mm_iinc _ _ _, ml_iinc _ _ _⟩ ?_
  refine mb_l_cons ⟨mm_go _, ml_go _⟩ ?_
  refine mb_l_cons ⟨mm_ild _ _, ml_ild _ _⟩ ?_
  refine mb_l_cons ⟨mm_ist _ _, ml_ist _ _⟩ ?_
  refine mb_l_cons ⟨mm_iinc _ _ _, ml_iinc _ _ _⟩ ?_
  refine mb_l_cons ⟨mm_go _, ml_go _⟩ ?_
  refine mb_l_cons ⟨mm_push _ _, ml_push _ _⟩ ?_
  refine mb_l_cons ⟨mm_ist _ _, ml_ist _ _⟩ ?_
  refine mb_l_cons ⟨mm_push _ _, ml_push _ _⟩ ?_
  refine mb_l_cons ⟨mm_ist _ _, ml_ist _ _⟩ ?_
  refine mb_l_cons ⟨mm_ild _ _, ml_ild _ _⟩ ?_
  refine mb_l_cons ⟨mm_ild _ _, ml_ild _ _⟩ ?_
  refine mb_l_cons ⟨mm_if2 _ _ _, ml_if2 _ _ _⟩ ?_
  refine mb_l_cons ⟨mm_ild _ _, ml_ild _ _⟩ ?_
  refine mb_l_cons ⟨mm_if1 _ _ _, ml_if1 _ _ _⟩ ?_
  refine mb_l_cons ⟨mm_ild _ _, ml_ild _ _⟩ ?_
  refine mb_l_cons ⟨mm_ald _ _, ml_ald _ _⟩ ?_
  refine mb_l_cons ⟨mm_ild _ _, ml_ild _ _⟩ ?_
  refine mb_l_cons ⟨mm_push _ _, ml_push _ _⟩ ?_
  refine mb_l_cons ⟨mm_callv _ _ _ _ _, ml_callv _ _ _ _ _⟩ ?_
  refine mb_l_cons ⟨mm_ild _ _, ml_ild _ _⟩ ?_
  refine mb_l_cons ⟨mm_if2 _ _ _, ml_if2 _ _ _⟩ ?_
  refine mb_l_cons ⟨mm_ald _ _, ml_ald _ _⟩ ?_
  refine mb_l_cons ⟨mm_ild _ _, ml_ild _ _⟩ ?_
  refine mb_l_cons ⟨mm_push _ _, ml_push _ _⟩ ?_
  refine mb_l_cons ⟨mm_callv _ _ _ _ _, ml_callv _ _ _ _ _⟩ ?_
  refine mb_l_cons ⟨mm_if1 _ _ _, ml_if1 _ _ _⟩ ?_
  refine mb_l_cons ⟨mm_push _ _, ml_push _ _⟩ ?_
  refine mb_l_cons ⟨mm_go _, ml_go _⟩ ?_
  refine mb_l_cons ⟨mm_push _ _, ml_push _ _⟩ ?_
  refine mb_l_cons ⟨mm_iadd _, ml_iadd _⟩ ?_
  refine mb_l_cons ⟨mm_ist _ _, ml_ist _ _⟩ ?_
  refine mb_l_cons ⟨mm_ald _ _, ml_ald _ _⟩ ?_
  refine mb_l_cons ⟨mm_ild _ _, ml_ild _ _⟩ ?_
  refine mb_l_cons ⟨mm_push _ _, ml_push _ _⟩ ?_
  refine mb_l_cons ⟨mm_callv _ _ _ _ _, ml_callv _ _ _ _ _⟩ ?_
  refine mb_l_cons ⟨mm_ild _ _, ml_ild _ _⟩ ?_
  refine mb_l_cons ⟨mm_if2 _ _ _, ml_if2 _ _ _⟩ ?_
  refine mb_l_cons ⟨mm_ald _ _, ml_ald _ _⟩ ?_
  refine mb_l_cons ⟨mm_ild _ _, ml_ild _ _⟩ ?_
  refine mb_l_cons ⟨mm_push _ _, ml_push _ _⟩ ?_
  refine mb_l_cons ⟨mm_callv _ _ _ _ _, ml_callv _ _ _ _ _⟩ ?_
  refine mb_l_cons ⟨mm_if1 _ _ _, ml_if1 _ _ _⟩ ?_
  refine mb_l_cons ⟨mm_ald _ _, ml_ald _ _⟩ ?_
  refine mb_l_cons ⟨mm_ild _ _, ml_ild _ _⟩ ?_
  refine mb_l_cons ⟨mm_push _ _, ml_push _ _⟩ ?_
  refine mb_l_cons ⟨mm_callv _ _ _ _ _, ml_callv _ _ _ _ _⟩ ?_
  refine mb_l_cons ⟨mm_ild _ _, ml_ild _ _⟩ ?_
  refine mb_l_cons ⟨mm_if2 _ _ _, ml_if2 _ _ _⟩ ?_
  refine mb_l_cons ⟨mm_push _ _, ml_push _ _⟩ ?_
  refine mb_l_cons ⟨mm_go _, ml_go _⟩ ?_
  refine mb_l_cons ⟨mm_push _ _, ml_push _ _⟩ ?_
  refine mb_l_cons ⟨mm_ist _ _, ml_ist _ _⟩ ?_
  refine mb_l_cons ⟨mm_iinc _ _ _, ml_iinc _ _ _⟩ ?_
  refine mb_l_cons ⟨mm_go _, ml_go _⟩ ?_
  refine mb_l_cons ⟨mm_ild _ _, ml_ild _ _⟩ ?_
  refine mb_l_cons ⟨mm_if1 _ _ _, ml_if1 _ _ _⟩ ?_
  refine mb_l_cons ⟨mm_ald _ _, ml_ald _ _⟩ ?_
  refine mb_l_cons ⟨mm_ild _ _, ml_ild _ _⟩ ?_
  refine mb_l_cons ⟨mm_callv _ _ _ _ _, ml_callv _ _ _ _ _⟩ ?_
  refine mb_l_cons ⟨mm_ild _ _, ml_ild _ _⟩ ?_
  refine mb_l_cons ⟨mm_if2 _ _ _, ml_if2 _ _ _⟩ ?_
  refine mb_l_cons ⟨mm_ild _ _, ml_ild _ _⟩ ?_
  refine mb_l_cons ⟨mm_ild _ _, ml_ild _ _⟩ ?_
  refine mb_l_cons ⟨mm_if2 _ _ _, ml_if2 _ _ _⟩ ?_
  refine mb_l_cons ⟨mm_ald _ _, ml_ald _ _⟩ ?_
  refine mb_l_cons ⟨mm_ild _ _, ml_ild _ _⟩ ?_
  refine mb_l_cons ⟨mm_callv _ _ _ _ _, ml_callv _ _ _ _ _⟩ ?_
  refine mb_l_cons ⟨mm_if1 _ _ _, ml_if1 _ _ _⟩ ?_
  refine mb_l_cons ⟨mm_ald _ _, ml_ald _ _⟩ ?_
  refine mb_l_cons ⟨mm_ild _ _, ml_ild _ _⟩ ?_
  refine mb_l_cons ⟨mm_callv _ _ _ _ _, ml_callv _ _ _ _ _⟩ ?_
  refine mb_l_cons ⟨mm_push _ _, ml_push _ _⟩ ?_
  refine mb_l_cons ⟨mm_if2 _ _ _, ml_if2 _ _ _⟩ ?_
  refine mb_l_cons ⟨mm_push _ _, ml_push _ _⟩ ?_
  refine mb_l_cons ⟨mm_go _, ml_go _⟩ ?_
  refine mb_l_cons ⟨mm_push _ _, ml_push _ _⟩ ?_
  refine mb_l_cons ⟨mm_zret, ml_zret⟩ ?_
  exact mb_l_nil
theorem mz_L_law : ∀ pc i, mb_look mc_L_law pc = some i → mb_Mon i ∧ mb_Le i := by
  unfold mc_L_law
  refine mb_l_cons ⟨mm_new _ _ _, ml_new _ _ _⟩ ?_
  refine mb_l_cons ⟨mm_dup _, ml_dup _⟩ ?_
  refine mb_l_cons ⟨mm_calli _ _ _, ml_calli _ _ _⟩ ?_
  refine mb_l_cons ⟨mm_ast _ _, ml_ast _ _⟩ ?_
  refine mb_l_cons ⟨mm_push _ _, ml_push _ _⟩ ?_
  refine mb_l_cons ⟨mm_newi _, ml_newi _⟩ ?_
  refine mb_l_cons ⟨mm_ast _ _, ml_ast _ _⟩ ?_
  refine mb_l_cons ⟨mm_push _ _, ml_push _ _⟩ ?_
  refine mb_l_cons ⟨mm_newi _, ml_newi _⟩ ?_
  refine mb_l_cons ⟨mm_ast _ _, ml_ast _ _⟩ ?_
  refine mb_l_cons ⟨mm_push _ _, ml_push _ _⟩ ?_
  refine mb_l_cons ⟨mm_newi _, ml_newi _⟩ ?_
  refine mb_l_cons ⟨mm_ast _ _, ml_ast _ _⟩ ?_
  refine mb_l_cons ⟨mm_push _ _, ml_push _ _⟩ ?_
  refine mb_l_cons ⟨mm_newi _, ml_newi _⟩ ?_
  refine mb_l_cons ⟨mm_ast _ _, ml_ast _ _⟩ ?_
  refine mb_l_cons ⟨mm_push _ _, ml_push _ _⟩ ?_
  refine mb_l_cons ⟨mm_newi _, ml_newi _⟩ ?_
  refine mb_l_cons ⟨mm_ast _ _, ml_ast _ _⟩ ?_
  refine mb_l_cons ⟨mm_push _ _, ml_push _ _⟩ ?_
  refine mb_l_cons ⟨mm_ist _ _, ml_ist _ _⟩ ?_
  refine mb_l_cons ⟨mm_push _ _, ml_push _ _⟩ ?_
  refine mb_l_cons ⟨mm_ist _ _, ml_ist _ _⟩ ?_
  refine mb_l_cons ⟨mm_ald _ _, ml_ald _ _⟩ ?_
  refine mb_l_cons ⟨mm_callv _ _ _ _ _, ml_callv _ _ _ _ _⟩ ?_
  refine mb_l_cons ⟨mm_if1 _ _ _, ml_if1 _ _ _⟩ ?_
  refine mb_l_cons ⟨mm_ald _ _, ml_ald _ _⟩ ?_
  refine mb_l_cons ⟨mm_callv _ _ _ _ _, ml_callv _ _ _ _ _⟩ ?_
  refine mb_l_cons ⟨mm_push _ _, ml_push _ _⟩ ?_
  refine mb_l_cons ⟨mm_if2 _ _ _, ml_if2 _ _ _⟩ ?_
  refine mb_l_cons ⟨mm_ald _ _, ml_ald _ _⟩ ?_
  refine mb_l_cons ⟨mm_push _ _, ml_push _ _⟩ ?_
  refine mb_l_cons ⟨mm_callv _ _ _ _ _, ml_callv _ _ _ _ _⟩ ?_
  refine mb_l_cons ⟨mm_if1 _ _ _, ml_if1 _ _ _⟩ ?_
  refine mb_l_cons ⟨mm_ald _ _, ml_ald _ _⟩ ?_
  refine mb_l_cons ⟨mm_push _ _, ml_push _ _⟩ ?_
  refine mb_l_cons ⟨mm_callv _ _ _ _ _, ml_callv _ _ _ _ _⟩ ?_
  refine mb_l_cons ⟨mm_push _ _, ml_push _ _⟩ ?_
  refine mb_l_cons ⟨mm_if2 _ _ _, ml_if2 _ _ _⟩ ?_
  refine mb_l_cons ⟨mm_push _ _, ml_push _ _⟩ ?_
  refine mb_l_cons ⟨mm_go _, ml_go _⟩ ?_
  refine mb_l_cons ⟨mm_push _ _, ml_push _ _⟩ ?_
  refine mb_l_cons ⟨mm_ist _ _, ml_ist _ _⟩ ?_
  refine mb_l_cons ⟨mm_ald _ _, ml_ald _ _⟩ ?_
  refine mb_l_cons ⟨mm_push _ _, ml_push _ _⟩ ?_
  refine mb_l_cons ⟨mm_push _ _, ml_push _ _⟩ ?_
  refine mb_l_cons ⟨mm_iast _, ml_iast _⟩ ?_
  refine mb_l_cons ⟨mm_ald _ _, ml_ald _ _⟩ ?_
  refine mb_l_cons ⟨mm_push _ _, ml_push _ _⟩ ?_
  refine mb_l_cons ⟨mm_push _ _, ml_push _ _⟩ ?_
  refine mb_l_cons ⟨mm_iast _, ml_iast _⟩ ?_
  refine mb_l_cons ⟨mm_ald _ _, ml_ald _ _⟩ ?_
  refine mb_l_cons ⟨mm_alen _, ml_alen _⟩ ?_
  refine mb_l_cons ⟨mm_push _ _, ml_push _ _⟩ ?_
  refine mb_l_cons ⟨mm_if2 _ _ _, ml_if2 _ _ _⟩ ?_
  refine mb_l_cons ⟨mm_push _ _, ml_push _ _⟩ ?_
  refine mb_l_cons ⟨mm_go _, ml_go _⟩ ?_
  refine mb_l_cons ⟨mm_ald _ _, ml_ald _ _⟩ ?_
  refine mb_l_cons ⟨mm_alen _, ml_alen _⟩ ?_
  refine mb_l_cons ⟨mm_push _ _, ml_push _ _⟩ ?_
  refine mb_l_cons ⟨mm_if2 _ _ _, ml_if2 _ _ _⟩ ?_
  refine mb_l_cons ⟨mm_push _ _, ml_push _ _⟩ ?_
  refine mb_l_cons ⟨mm_ald _ _, ml_ald _ _⟩ ?_
  refine mb_l_cons ⟨mm_alen _, ml_alen _⟩ ?_
  refine mb_l_cons ⟨mm_imul _, ml_imul _⟩ ?_
  refine mb_l_cons ⟨mm_go _, ml_go _⟩ ?_
  refine mb_l_cons ⟨mm_push _ _, ml_push _ _⟩ ?_
  refine mb_l_cons ⟨mm_ist _ _, ml_ist _ _⟩ ?_
  refine mb_l_cons ⟨mm_push _ _, ml_push _ _⟩ ?_
  refine mb_l_cons ⟨mm_ist _ _, ml_ist _ _⟩ ?_
  refine mb_l_cons ⟨mm_ild _ _, ml_ild _ _⟩ ?_
  refine mb_l_cons ⟨mm_ild _ _, ml_ild _ _⟩ ?_
  refine mb_l_cons ⟨mm_if2 _ _ _, ml_if2 _ _ _⟩ ?_
  refine mb_l_cons ⟨mm_ild _ _, ml_ild _ _⟩ ?_
  refine mb_l_cons ⟨mm_if1 _ _ _, ml_if1 _ _ _⟩ ?_
  refine mb_l_cons ⟨mm_ald _ _, ml_ald _ _⟩ ?_
  refine mb_l_cons ⟨mm_ild _ _, ml_ild _ _⟩ ?_
  refine mb_l_cons ⟨mm_calls _ _ _, ml_calls _ _ _⟩ ?_
  refine mb_l_cons ⟨mm_push _ _, ml_push _ _⟩ ?_
  refine mb_l_cons ⟨mm_ishr _, ml_ishr _⟩ ?_
  refine mb_l_cons ⟨mm_push _ _, ml_push _ _⟩ ?_
  refine mb_l_cons ⟨mm_iand _, ml_iand _⟩ ?_
  refine mb_l_cons ⟨mm_ist _ _, ml_ist _ _⟩ ?_
  refine mb_l_cons ⟨mm_ild _ _, ml_ild _ _⟩ ?_
  refine mb_l_cons ⟨mm_push _ _, ml_push _ _⟩ ?_
  refine mb_l_cons ⟨mm_if2 _ _ _, ml_if2 _ _ _⟩ ?_
  refine mb_l_cons ⟨mm_push _ _, ml_push _ _⟩ ?_
  refine mb_l_cons ⟨mm_go _, ml_go _⟩ ?_
  refine mb_l_cons ⟨mm_ald _ _, ml_ald _ _⟩ ?_
  refine mb_l_cons ⟨mm_ild _ _, ml_ild _ _⟩ ?_
  refine mb_l_cons ⟨mm_calls _ _ _, ml_calls _ _ _⟩ ?_
  refine mb_l_cons ⟨mm_push _ _, ml_push _ _⟩ ?_
  refine mb_l_cons ⟨mm_iand _, ml_iand _⟩ ?_
  refine mb_l_cons ⟨mm_ist _ _, ml_ist _ _⟩ ?_
  refine mb_l_cons ⟨mm_ild _ _, ml_ild _ _⟩ ?_
  refine mb_l_cons ⟨mm_push _ _, ml_push _ _⟩ ?_
  refine mb_l_cons ⟨mm_if2 _ _ _, ml_if2 _ _ _⟩ ?_
  refine mb_l_cons ⟨mm_ild _ _, ml_ild _ _⟩ ?_
  refine mb_l_cons ⟨mm_go _, ml_go _⟩ ?_
  refine mb_l_cons ⟨mm_ild _ _, ml_ild _ _⟩ ?_
  refine mb_l_cons ⟨mm_push _ _, ml_push _ _⟩ ?_
  refine mb_l_cons ⟨mm_iand _, ml_iand _⟩ ?_
  refine mb_l_cons ⟨mm_ist _ _, ml_ist _ _⟩ ?_
  refine mb_l_cons ⟨mm_ild _ _, ml_ild _ _⟩ ?_
  refine mb_l_cons ⟨mm_push _ _, ml_push _ _⟩ ?_
  refine mb_l_cons ⟨mm_ishr _, ml_ishr _⟩ ?_
  refine mb_l_cons ⟨mm_push _ _, ml_push _ _⟩ ?_
  refine mb_l_cons ⟨mm_iand _, ml_iand _⟩ ?_
  refine mb_l_cons ⟨mm_ist _ _, ml_ist _ _⟩ ?_
  refine mb_l_cons ⟨mm_ild _ _, ml_ild _ _⟩ ?_
  refine mb_l_cons ⟨mm_push _ _, ml_push _ _⟩ ?_
  refine mb_l_cons ⟨mm_if2 _ _ _, ml_if2 _ _ _⟩ ?_
  refine mb_l_cons ⟨mm_ald _ _, ml_ald _ _⟩ ?_
  refine mb_l_cons ⟨mm_ild _ _, ml_ild _ _⟩ ?_
  refine mb_l_cons ⟨mm_iald _, ml_iald _⟩ ?_
  refine mb_l_cons ⟨mm_push _ _, ml_push _ _⟩ ?_
  refine mb_l_cons ⟨mm_if2 _ _ _, ml_if2 _ _ _⟩ ?_
  refine mb_l_cons ⟨mm_ald _ _, ml_ald _ _⟩ ?_
  refine mb_l_cons ⟨mm_push _ _, ml_push _ _⟩ ?_
  refine mb_l_cons ⟨mm_ild _ _, ml_ild _ _⟩ ?_
  refine mb_l_cons ⟨mm_ild _ _, ml_ild _ _⟩ ?_
  refine mb_l_cons ⟨mm_push _ _, ml_push _ _⟩ ?_
  refine mb_l_cons ⟨mm_ishr _, ml_ishr _⟩ ?_
  refine mb_l_cons ⟨mm_ald _ _, ml_ald _ _⟩ ?_
  refine mb_l_cons ⟨mm_ild _ _, ml_ild _ _⟩ ?_
  refine mb_l_cons ⟨mm_iald _, ml_iald _⟩ ?_
  refine mb_l_cons ⟨mm_push _ _, ml_push _ _⟩ ?_
  refine mb_l_cons ⟨mm_iadd _, ml_iadd _⟩ ?_
  refine mb_l_cons ⟨mm_irem _, ml_irem _⟩ ?_
  refine mb_l_cons ⟨mm_push _ _, ml_push _ _⟩ ?_
  refine mb_l_cons ⟨mm_isub _, ml_isub _⟩ ?_
  refine mb_l_cons ⟨mm_push _ _, ml_push _ _⟩ ?_
  refine mb_l_cons ⟨mm_push _ _, ml_push _ _⟩ ?_
  refine mb_l_cons ⟨mm_push _ _, ml_push _ _⟩ ?_
  refine mb_l_cons ⟨mm_calls _ _ _, ml_calls _ _ _⟩ ?_
  refine mb_l_cons ⟨mm_ald _ _, ml_ald _ _⟩ ?_
  refine mb_l_cons ⟨mm_ild _ _, ml_ild _ _⟩ ?_
  refine mb_l_cons ⟨mm_iald _, ml_iald _⟩ ?_
  refine mb_l_cons ⟨mm_if2 _ _ _, ml_if2 _ _ _⟩ ?_
  refine mb_l_cons ⟨mm_push _ _, ml_push _ _⟩ ?_
  refine mb_l_cons ⟨mm_go _, ml_go _⟩ ?_
  refine mb_l_cons ⟨mm_push _ _, ml_push _ _⟩ ?_
  refine mb_l_cons ⟨mm_ist _ _, ml_ist _ _⟩ ?_
  refine mb_l_cons ⟨mm_ald _ _, ml_ald _ _⟩ ?_
  refine mb_l_cons ⟨mm_ild _ _, ml_ild _ _⟩ ?_
  refine mb_l_cons ⟨mm_dup2 _, ml_dup2 _⟩ ?_
  refine mb_l_cons ⟨mm_iald _, ml_iald _⟩ ?_
  refine mb_l_cons ⟨mm_push _ _, ml_push _ _⟩ ?_
  refine mb_l_cons ⟨mm_iadd _, ml_iadd _⟩ ?_
  refine mb_l_cons ⟨mm_iast _, ml_iast _⟩ ?_
  refine mb_l_cons ⟨mm_go _, ml_go _⟩ ?_
  refine mb_l_cons ⟨mm_ild _ _, ml_ild _ _⟩ ?_
  refine mb_l_cons ⟨mm_push _ _, ml_push _ _⟩ ?_
  refine mb_l_cons ⟨mm_if2 _ _ _, ml_if2 _ _ _⟩ ?_
  refine mb_l_cons ⟨mm_ild _ _, ml_ild _ _⟩ ?_
  refine mb_l_cons ⟨mm_push _ _, ml_push _ _⟩ ?_
  refine mb_l_cons ⟨mm_ishr _, ml_ishr _⟩ ?_
  refine mb_l_cons ⟨mm_ald _ _, ml_ald _ _⟩ ?_
  refine mb_l_cons ⟨mm_ild _ _, ml_ild _ _⟩ ?_
  refine mb_l_cons ⟨mm_iald _, ml_iald _⟩ ?_
  refine mb_l_cons ⟨mm_irem _, ml_irem _⟩ ?_
  refine mb_l_cons ⟨mm_ist _ _, ml_ist _ _⟩ ?_
  refine mb_l_cons ⟨mm_ild _ _, ml_ild _ _⟩ ?_
  refine mb_l_cons ⟨mm_push _ _, ml_push _ _⟩ ?_
  refine mb_l_cons ⟨mm_ishr _, ml_ishr _⟩ ?_
  refine mb_l_cons ⟨mm_push _ _, ml_push _ _⟩ ?_
  refine mb_l_cons ⟨mm_irem _, ml_irem _⟩ ?_
  refine mb_l_cons ⟨mm_ist _ _, ml_ist _ _⟩ ?_
  refine mb_l_cons ⟨mm_ild _ _, ml_ild _ _⟩ ?_
  refine mb_l_cons ⟨mm_push _ _, ml_push _ _⟩ ?_
  refine mb_l_cons ⟨mm_ishr _, ml_ishr _⟩ ?_
  refine mb_l_cons ⟨mm_push _ _, ml_push _ _⟩ ?_
  refine mb_l_cons ⟨mm_irem _, ml_irem _⟩ ?_
  refine mb_l_cons ⟨mm_push _ _, ml_push _ _⟩ ?_
  refine mb_l_cons ⟨mm_isub _, ml_isub _⟩ ?_
  refine mb_l_cons ⟨mm_ist _ _, ml_ist _ _⟩ ?_
  refine mb_l_cons ⟨mm_ald _ _, ml_ald _ _⟩ ?_
  refine mb_l_cons ⟨mm_push _ _, ml_push _ _⟩ ?_
  refine mb_l_cons ⟨mm_ild _ _, ml_ild _ _⟩ ?_
  refine mb_l_cons ⟨mm_ild _ _, ml_ild _ _⟩ ?_
  refine mb_l_cons ⟨mm_ild _ _, ml_ild _ _⟩ ?_
  refine mb_l_cons ⟨mm_ild _ _, ml_ild _ _⟩ ?_
  refine mb_l_cons ⟨mm_ild _ _, ml_ild _ _⟩ ?_
  refine mb_l_cons ⟨mm_push _ _, ml_push _ _⟩ ?_
  refine mb_l_cons ⟨mm_ishr _, ml_ishr _⟩ ?_
  refine mb_l_cons ⟨mm_push _ _, ml_push _ _⟩ ?_
  refine mb_l_cons ⟨mm_irem _, ml_irem _⟩ ?_
  refine mb_l_cons ⟨mm_calls _ _ _, ml_calls _ _ _⟩ ?_
  refine mb_l_cons ⟨mm_ist _ _, ml_ist _ _⟩ ?_
  refine mb_l_cons ⟨mm_ild _ _, ml_ild _ _⟩ ?_
  refine mb_l_cons ⟨mm_if1 _ _ _, ml_if1 _ _ _⟩ ?_
  refine mb_l_cons ⟨mm_ild _ _, ml_ild _ _⟩ ?_
  refine mb_l_cons ⟨mm_push _ _, ml_push _ _⟩ ?_
  refine mb_l_cons ⟨mm_if2 _ _ _, ml_if2 _ _ _⟩ ?_
  refine mb_l_cons ⟨mm_ald _ _, ml_ald _ _⟩ ?_
  refine mb_l_cons ⟨mm_ild _ _, ml_ild _ _⟩ ?_
  refine mb_l_cons ⟨mm_push _ _, ml_push _ _⟩ ?_
  refine mb_l_cons ⟨mm_ild _ _, ml_ild _ _⟩ ?_
  refine mb_l_cons ⟨mm_ild _ _, ml_ild _ _⟩ ?_
  refine mb_l_cons ⟨mm_callv _ _ _ _ _, ml_callv _ _ _ _ _⟩ ?_
  refine mb_l_cons ⟨mm_ald _ _, ml_ald _ _⟩ ?_
  refine mb_l_cons ⟨mm_ild _ _, ml_ild _ _⟩ ?_
  refine mb_l_cons ⟨mm_push _ _, ml_push _ _⟩ ?_
  refine mb_l_cons ⟨mm_ild _ _, ml_ild _ _⟩ ?_
  refine mb_l_cons ⟨mm_ild _ _, ml_ild _ _⟩ ?_
  refine mb_l_cons ⟨mm_callv _ _ _ _ _, ml_callv _ _ _ _ _⟩ ?_
  refine mb_l_cons ⟨mm_if2 _ _ _, ml_if2 _ _ _⟩ ?_
  refine mb_l_cons ⟨mm_push _ _, ml_push _ _⟩ ?_
  refine mb_l_cons ⟨mm_go _, ml_go _⟩ ?_
  refine mb_l_cons ⟨mm_push _ _, ml_push _ _⟩ ?_
  refine mb_l_cons ⟨mm_ist _ _, ml_ist _ _⟩ ?_
  refine mb_l_cons ⟨mm_go _, ml_go _⟩ ?_
  refine mb_l_cons ⟨mm_ild _ _, ml_ild _ _⟩ ?_
  refine mb_l_cons ⟨mm_push _ _, ml_push _ _⟩ ?_
  refine mb_l_cons ⟨mm_if2 _ _ _, ml_if2 _ _ _⟩ ?_
  refine mb_l_cons ⟨mm_ald _ _, ml_ald _ _⟩ ?_
  refine mb_l_cons ⟨mm_push _ _, ml_push _ _⟩ ?_
  refine mb_l_cons ⟨mm_ild _ _, ml_ild _ _⟩ ?_
  refine mb_l_cons ⟨mm_ild _ _, ml_ild _ _⟩ ?_
  refine mb_l_cons ⟨mm_push _ _, ml_push _ _⟩ ?_
  refine mb_l_cons ⟨mm_ishr _, ml_ishr _⟩ ?_
  refine mb_l_cons ⟨mm_ald _ _, ml_ald _ _⟩ ?_
  refine mb_l_cons ⟨mm_ild _ _, ml_ild _ _⟩ ?_
  refine mb_l_cons ⟨mm_iald _, ml_iald _⟩ ?_
  refine mb_l_cons ⟨mm_irem _, ml_irem _⟩ ?_
  refine mb_l_cons ⟨mm_ild _ _, ml_ild _ _⟩ ?_
  refine mb_l_cons ⟨mm_push _ _, ml_push _ _⟩ ?_
  refine mb_l_cons ⟨mm_ishr _, ml_ishr _⟩ ?_
  refine mb_l_cons ⟨mm_push _ _, ml_push _ _⟩ ?_
  refine mb_l_cons ⟨mm_irem _, ml_irem _⟩ ?_
  refine mb_l_cons ⟨mm_push _ _, ml_push _ _⟩ ?_
  refine mb_l_cons ⟨mm_push _ _, ml_push _ _⟩ ?_
  refine mb_l_cons ⟨mm_calls _ _ _, ml_calls _ _ _⟩ ?_
  refine mb_l_cons ⟨mm_ist _ _, ml_ist _ _⟩ ?_
  refine mb_l_cons ⟨mm_ild _ _, ml_ild _ _⟩ ?_
  refine mb_l_cons ⟨mm_if1 _ _ _, ml_if1 _ _ _⟩ ?_
  refine mb_l_cons ⟨mm_ild _ _, ml_ild _ _⟩ ?_
  refine mb_l_cons ⟨mm_push _ _, ml_push _ _⟩ ?_
  refine mb_l_cons ⟨mm_if2 _ _ _, ml_if2 _ _ _⟩ ?_
  refine mb_l_cons ⟨mm_ald _ _, ml_ald _ _⟩ ?_
  refine mb_l_cons ⟨mm_push _ _, ml_push _ _⟩ ?_
  refine mb_l_cons ⟨mm_ild _ _, ml_ild _ _⟩ ?_
  refine mb_l_cons ⟨mm_ild _ _, ml_ild _ _⟩ ?_
  refine mb_l_cons ⟨mm_push _ _, ml_push _ _⟩ ?_
  refine mb_l_cons ⟨mm_ishr _, ml_ishr _⟩ ?_
  refine mb_l_cons ⟨mm_ald _ _, ml_ald _ _⟩ ?_
  refine mb_l_cons ⟨mm_ild _ _, ml_ild _ _⟩ ?_
  refine mb_l_cons ⟨mm_iald _, ml_iald _⟩ ?_
  refine mb_l_cons ⟨mm_irem _, ml_irem _⟩ ?_
  refine mb_l_cons ⟨mm_ild _ _, ml_ild _ _⟩ ?_
  refine mb_l_cons ⟨mm_push _ _, ml_push _ _⟩ ?_
  refine mb_l_cons ⟨mm_ishr _, ml_ishr _⟩ ?_
  refine mb_l_cons ⟨mm_push _ _, ml_push _ _⟩ ?_
  refine mb_l_cons ⟨mm_irem _, ml_irem _⟩ ?_
  refine mb_l_cons ⟨mm_push _ _, ml_push _ _⟩ ?_
  refine mb_l_cons ⟨mm_push _ _, ml_push _ _⟩ ?_
  refine mb_l_cons ⟨mm_calls _ _ _, ml_calls _ _ _⟩ ?_
  refine mb_l_cons ⟨mm_if1 _ _ _, ml_if1 _ _ _⟩ ?_
  refine mb_l_cons ⟨mm_push _ _, ml_push _ _⟩ ?_
  refine mb_l_cons ⟨mm_go _, ml_go _⟩ ?_
  refine mb_l_cons ⟨mm_push _ _, ml_push _ _⟩ ?_
  refine mb_l_cons ⟨mm_ist _ _, ml_ist _ _⟩ ?_
  refine mb_l_cons ⟨mm_go _, ml_go _⟩ ?_
  refine mb_l_cons ⟨mm_ild _ _, ml_ild _ _⟩ ?_
  refine mb_l_cons ⟨mm_push _ _, ml_push _ _⟩ ?_
  refine mb_l_cons ⟨mm_if2 _ _ _, ml_if2 _ _ _⟩ ?_
  refine mb_l_cons ⟨mm_ald _ _, ml_ald _ _⟩ ?_
  refine mb_l_cons ⟨mm_ild _ _, ml_ild _ _⟩ ?_
  refine mb_l_cons ⟨mm_iald _, ml_iald _⟩ ?_
  refine mb_l_cons ⟨mm_push _ _, ml_push _ _⟩ ?_
  refine mb_l_cons ⟨mm_if2 _ _ _, ml_if2 _ _ _⟩ ?_
  refine mb_l_cons ⟨mm_ald _ _, ml_ald _ _⟩ ?_
  refine mb_l_cons ⟨mm_push _ _, ml_push _ _⟩ ?_
  refine mb_l_cons ⟨mm_ild _ _, ml_ild _ _⟩ ?_
  refine mb_l_cons ⟨mm_push _ _, ml_push _ _⟩ ?_
  refine mb_l_cons ⟨mm_push _ _, ml_push _ _⟩ ?_
  refine mb_l_cons ⟨mm_push _ _, ml_push _ _⟩ ?_
  refine mb_l_cons ⟨mm_push _ _, ml_push _ _⟩ ?_
  refine mb_l_cons ⟨mm_calls _ _ _, ml_calls _ _ _⟩ ?_
  refine mb_l_cons ⟨mm_ald _ _, ml_ald _ _⟩ ?_
  refine mb_l_cons ⟨mm_ild _ _, ml_ild _ _⟩ ?_
  refine mb_l_cons ⟨mm_iald _, ml_iald _⟩ ?_
  refine mb_l_cons ⟨mm_if2 _ _ _, ml_if2 _ _ _⟩ ?_
  refine mb_l_cons ⟨mm_push _ _, ml_push _ _⟩ ?_
  refine mb_l_cons ⟨mm_go _, ml_go _⟩ ?_
  refine mb_l_cons ⟨mm_push _ _, ml_push _ _⟩ ?_
  refine mb_l_cons ⟨mm_ist _ _, ml_ist _ _⟩ ?_
  refine mb_l_cons ⟨mm_ald _ _, ml_ald _ _⟩ ?_
  refine mb_l_cons ⟨mm_push _ _, ml_push _ _⟩ ?_
  refine mb_l_cons ⟨mm_ild _ _, ml_ild _ _⟩ ?_
  refine mb_l_cons ⟨mm_imul _, ml_imul _⟩ ?_
  refine mb_l_cons ⟨mm_ald _ _, ml_ald _ _⟩ ?_
  refine mb_l_cons ⟨mm_ild _ _, ml_ild _ _⟩ ?_
  refine mb_l_cons ⟨mm_iald _, ml_iald _⟩ ?_
  refine mb_l_cons ⟨mm_iadd _, ml_iadd _⟩ ?_
  refine mb_l_cons ⟨mm_ald _ _, ml_ald _ _⟩ ?_
  refine mb_l_cons ⟨mm_ild _ _, ml_ild _ _⟩ ?_
  refine mb_l_cons ⟨mm_iald _, ml_iald _⟩ ?_
  refine mb_l_cons ⟨mm_iast _, ml_iast _⟩ ?_
  refine mb_l_cons ⟨mm_ald _ _, ml_ald _ _⟩ ?_
  refine mb_l_cons ⟨mm_push _ _, ml_push _ _⟩ ?_
  refine mb_l_cons ⟨mm_ild _ _, ml_ild _ _⟩ ?_
  refine mb_l_cons ⟨mm_imul _, ml_imul _⟩ ?_
  refine mb_l_cons ⟨mm_ald _ _, ml_ald _ _⟩ ?_
  refine mb_l_cons ⟨mm_ild _ _, ml_ild _ _⟩ ?_
  refine mb_l_cons ⟨mm_iald _, ml_iald _⟩ ?_
  refine mb_l_cons ⟨mm_iadd _, ml_iadd _⟩ ?_
  refine mb_l_cons ⟨mm_ald _ _, ml_ald _ _⟩ ?_
  refine mb_l_cons ⟨mm_ild _ _, ml_ild _ _⟩ ?_
  refine mb_l_cons ⟨mm_push _ _, ml_push _ _⟩ ?_
  refine mb_l_cons ⟨mm_ald _ _, ml_ald _ _⟩ ?_
  refine mb_l_cons ⟨mm_ild _ _, ml_ild _ _⟩ ?_
  refine mb_l_cons ⟨mm_iald _, ml_iald _⟩ ?_
  refine mb_l_cons ⟨mm_calls _ _ _, ml_calls _ _ _⟩ ?_
  refine mb_l_cons ⟨mm_iast _, ml_iast _⟩ ?_
  refine mb_l_cons ⟨mm_ald _ _, ml_ald _ _⟩ ?_
  refine mb_l_cons ⟨mm_ild _ _, ml_ild _ _⟩ ?_
  refine mb_l_cons ⟨mm_dup2 _, ml_dup2 _⟩ ?_
  refine mb_l_cons ⟨mm_iald _, ml_iald _⟩ ?_
  refine mb_l_cons ⟨mm_push _ _, ml_push _ _⟩ ?_
  refine mb_l_cons ⟨mm_iadd _, ml_iadd _⟩ ?_
  refine mb_l_cons ⟨mm_iast _, ml_iast _⟩ ?_
  refine mb_l_cons ⟨mm_go _, ml_go _⟩ ?_
  refine mb_l_cons ⟨mm_ild _ _, ml_ild _ _⟩ ?_
  refine mb_l_cons ⟨mm_push _ _, ml_push _ _⟩ ?_
  refine mb_l_cons ⟨mm_if2 _ _ _, ml_if2 _ _ _⟩ ?_
  refine mb_l_cons ⟨mm_ild _ _, ml_ild _ _⟩ ?_
  refine mb_l_cons ⟨mm_push _ _, ml_push _ _⟩ ?_
  refine mb_l_cons ⟨mm_ishr _, ml_ishr _⟩ ?_
  refine mb_l_cons ⟨mm_ald _ _, ml_ald _ _⟩ ?_
  refine mb_l_cons ⟨mm_ild _ _, ml_ild _ _⟩ ?_
  refine mb_l_cons ⟨mm_iald _, ml_iald _⟩ ?_
  refine mb_l_cons ⟨mm_push _ _, ml_push _ _⟩ ?_
  refine mb_l_cons ⟨mm_iadd _, ml_iadd _⟩ ?_
  refine mb_l_cons ⟨mm_irem _, ml_irem _⟩ ?_
  refine mb_l_cons ⟨mm_push _ _, ml_push _ _⟩ ?_
  refine mb_l_cons ⟨mm_isub _, ml_isub _⟩ ?_
  refine mb_l_cons ⟨mm_ist _ _, ml_ist _ _⟩ ?_
  refine mb_l_cons ⟨mm_ild _ _, ml_ild _ _⟩ ?_
  refine mb_l_cons ⟨mm_push _ _, ml_push _ _⟩ ?_
  refine mb_l_cons ⟨mm_ishr _, ml_ishr _⟩ ?_
  refine mb_l_cons ⟨mm_push _ _, ml_push _ _⟩ ?_
  refine mb_l_cons ⟨mm_irem _, ml_irem _⟩ ?_
  refine mb_l_cons ⟨mm_ist _ _, ml_ist _ _⟩ ?_
  refine mb_l_cons ⟨mm_ald _ _, ml_ald _ _⟩ ?_
  refine mb_l_cons ⟨mm_push _ _, ml_push _ _⟩ ?_
  refine mb_l_cons ⟨mm_ild _ _, ml_ild _ _⟩ ?_
  refine mb_l_cons ⟨mm_ild _ _, ml_ild _ _⟩ ?_
  refine mb_l_cons ⟨mm_ild _ _, ml_ild _ _⟩ ?_
  refine mb_l_cons ⟨mm_ild _ _, ml_ild _ _⟩ ?_
  refine mb_l_cons ⟨mm_ild _ _, ml_ild _ _⟩ ?_
  refine mb_l_cons ⟨mm_ild _ _, ml_ild _ _⟩ ?_
  refine mb_l_cons ⟨mm_push _ _, ml_push _ _⟩ ?_
  refine mb_l_cons ⟨mm_ishr _, ml_ishr _⟩ ?_
  refine mb_l_cons ⟨mm_push _ _, ml_push _ _⟩ ?_
  refine mb_l_cons ⟨mm_irem _, ml_irem _⟩ ?_
  refine mb_l_cons ⟨mm_iadd _, ml_iadd _⟩ ?_
  refine mb_l_cons ⟨mm_calls _ _ _, ml_calls _ _ _⟩ ?_
  refine mb_l_cons ⟨mm_ist _ _, ml_ist _ _⟩ ?_
  refine mb_l_cons ⟨mm_ild _ _, ml_ild _ _⟩ ?_
  refine mb_l_cons ⟨mm_push _ _, ml_push _ _⟩ ?_
  refine mb_l_cons ⟨mm_if2 _ _ _, ml_if2 _ _ _⟩ ?_
  refine mb_l_cons ⟨mm_ild _ _, ml_ild _ _⟩ ?_
  refine mb_l_cons ⟨mm_push _ _, ml_push _ _⟩ ?_
  refine mb_l_cons ⟨mm_if2 _ _ _, ml_if2 _ _ _⟩ ?_
  refine mb_l_cons ⟨mm_push _ _, ml_push _ _⟩ ?_
  refine mb_l_cons ⟨mm_go _, ml_go _⟩ ?_
  refine mb_l_cons ⟨mm_push _ _, ml_push _ _⟩ ?_
  refine mb_l_cons ⟨mm_ist _ _, ml_ist _ _⟩ ?_
  refine mb_l_cons ⟨mm_go _, ml_go _⟩ ?_
  refine mb_l_cons ⟨mm_ild _ _, ml_ild _ _⟩ ?_
  refine mb_l_cons ⟨mm_push _ _, ml_push _ _⟩ ?_
  refine mb_l_cons ⟨mm_if2 _ _ _, ml_if2 _ _ _⟩ ?_
  refine mb_l_cons ⟨mm_ild _ _, ml_ild _ _⟩ ?_
  refine mb_l_cons ⟨mm_push _ _, ml_push _ _⟩ ?_
  refine mb_l_cons ⟨mm_ishr _, ml_ishr _⟩ ?_
  refine mb_l_cons ⟨mm_ald _ _, ml_ald _ _⟩ ?_
  refine mb_l_cons ⟨mm_ild _ _, ml_ild _ _⟩ ?_
  refine mb_l_cons ⟨mm_iald _, ml_iald _⟩ ?_
  refine mb_l_cons ⟨mm_irem _, ml_irem _⟩ ?_
  refine mb_l_cons ⟨mm_ist _ _, ml_ist _ _⟩ ?_
  refine mb_l_cons ⟨mm_push _ _, ml_push _ _⟩ ?_
  refine mb_l_cons ⟨mm_ild _ _, ml_ild _ _⟩ ?_
  refine mb_l_cons ⟨mm_push _ _, ml_push _ _⟩ ?_
  refine mb_l_cons ⟨mm_ishr _, ml_ishr _⟩ ?_
  refine mb_l_cons ⟨mm_push _ _, ml_push _ _⟩ ?_
  refine mb_l_cons ⟨mm_irem _, ml_irem _⟩ ?_
  refine mb_l_cons ⟨mm_iadd _, ml_iadd _⟩ ?_
  refine mb_l_cons ⟨mm_ist _ _, ml_ist _ _⟩ ?_
  refine mb_l_cons ⟨mm_ald _ _, ml_ald _ _⟩ ?_
  refine mb_l_cons ⟨mm_push _ _, ml_push _ _⟩ ?_
  refine mb_l_cons ⟨mm_ild _ _, ml_ild _ _⟩ ?_
  refine mb_l_cons ⟨mm_ild _ _, ml_ild _ _⟩ ?_
  refine mb_l_cons ⟨mm_ild _ _, ml_ild _ _⟩ ?_
  refine mb_l_cons ⟨mm_push _ _, ml_push _ _⟩ ?_
  refine mb_l_cons ⟨mm_push _ _, ml_push _ _⟩ ?_
  refine mb_l_cons ⟨mm_calls _ _ _, ml_calls _ _ _⟩ ?_
  refine mb_l_cons ⟨mm_ist _ _, ml_ist _ _⟩ ?_
  refine mb_l_cons ⟨mm_ild _ _, ml_ild _ _⟩ ?_
  refine mb_l_cons ⟨mm_ald _ _, ml_ald _ _⟩ ?_
  refine mb_l_cons ⟨mm_ild _ _, ml_ild _ _⟩ ?_
  refine mb_l_cons ⟨mm_iald _, ml_iald _⟩ ?_
  refine mb_l_cons ⟨mm_ild _ _, ml_ild _ _⟩ ?_
  refine mb_l_cons ⟨mm_isub _, ml_isub _⟩ ?_
  refine mb_l_cons ⟨mm_if2 _ _ _, ml_if2 _ _ _⟩ ?_
  refine mb_l_cons ⟨mm_ild _ _, ml_ild _ _⟩ ?_
  refine mb_l_cons ⟨mm_ald _ _, ml_ald _ _⟩ ?_
  refine mb_l_cons ⟨mm_ild _ _, ml_ild _ _⟩ ?_
  refine mb_l_cons ⟨mm_iald _, ml_iald _⟩ ?_
  refine mb_l_cons ⟨mm_if2 _ _ _, ml_if2 _ _ _⟩ ?_
  refine mb_l_cons ⟨mm_push _ _, ml_push _ _⟩ ?_
  refine mb_l_cons ⟨mm_go _, ml_go _⟩ ?_
  refine mb_l_cons ⟨mm_push _ _, ml_push _ _⟩ ?_
  refine mb_l_cons ⟨mm_ist _ _, ml_ist _ _⟩ ?_
  refine mb_l_cons ⟨mm_ild _ _, ml_ild _ _⟩ ?_
  refine mb_l_cons ⟨mm_ild _ _, ml_ild _ _⟩ ?_
  refine mb_l_cons ⟨mm_if1 _ _ _, ml_if1 _ _ _⟩ ?_
  refine mb_l_cons ⟨mm_ald _ _, ml_ald _ _⟩ ?_
  refine mb_l_cons ⟨mm_ild _ _, ml_ild _ _⟩ ?_
  refine mb_l_cons ⟨mm_iald _, ml_iald _⟩ ?_
  refine mb_l_cons ⟨mm_ild _ _, ml_ild _ _⟩ ?_
  refine mb_l_cons ⟨mm_isub _, ml_isub _⟩ ?_
  refine mb_l_cons ⟨mm_go _, ml_go _⟩ ?_
  refine mb_l_cons ⟨mm_push _ _, ml_push _ _⟩ ?_
  refine mb_l_cons ⟨mm_if2 _ _ _, ml_if2 _ _ _⟩ ?_
  refine mb_l_cons ⟨mm_push _ _, ml_push _ _⟩ ?_
  refine mb_l_cons ⟨mm_go _, ml_go _⟩ ?_
  refine mb_l_cons ⟨mm_push _ _, ml_push _ _⟩ ?_
  refine mb_l_cons ⟨mm_ist _ _, ml_ist _ _⟩ ?_
  refine mb_l_cons ⟨mm_ald _ _, ml_ald _ _⟩ ?_
  refine mb_l_cons ⟨mm_ild _ _, ml_ild _ _⟩ ?_
  refine mb_l_cons ⟨mm_dup2 _, ml_dup2 _⟩ ?_
  refine mb_l_cons ⟨mm_iald _, ml_iald _⟩ ?_
  refine mb_l_cons ⟨mm_ild _ _, ml_ild _ _⟩ ?_
  refine mb_l_cons ⟨mm_if1 _ _ _, ml_if1 _ _ _⟩ ?_
  refine mb_l_cons ⟨mm_ild _ _, ml_ild _ _⟩ ?_
  refine mb_l_cons ⟨mm_go _, ml_go _⟩ ?_
  refine mb_l_cons ⟨mm_push _ _, ml_push _ _⟩ ?_
  refine mb_l_cons ⟨mm_isub _, ml_isub _⟩ ?_
  refine mb_l_cons ⟨mm_iast _, ml_iast _⟩ ?_
  refine mb_l_cons ⟨mm_go _, ml_go _⟩ ?_
  refine mb_l_cons ⟨mm_ild _ _, ml_ild _ _⟩ ?_
  refine mb_l_cons ⟨mm_push _ _, ml_push _ _⟩ ?_
  refine mb_l_cons ⟨mm_if2 _ _ _, ml_if2 _ _ _⟩ ?_
  refine mb_l_cons ⟨mm_ild _ _, ml_ild _ _⟩ ?_
  refine mb_l_cons ⟨mm_push _ _, ml_push _ _⟩ ?_
  refine mb_l_cons ⟨mm_if2 _ _ _, ml_if2 _ _ _⟩ ?_
  refine mb_l_cons ⟨mm_ald _ _, ml_ald _ _⟩ ?_
  refine mb_l_cons ⟨mm_push _ _, ml_push _ _⟩ ?_
  refine mb_l_cons ⟨mm_ild _ _, ml_ild _ _⟩ ?_
  refine mb_l_cons ⟨mm_ild _ _, ml_ild _ _⟩ ?_
  refine mb_l_cons ⟨mm_push _ _, ml_push _ _⟩ ?_
  refine mb_l_cons ⟨mm_ishr _, ml_ishr _⟩ ?_
  refine mb_l_cons ⟨mm_ald _ _, ml_ald _ _⟩ ?_
  refine mb_l_cons ⟨mm_ild _ _, ml_ild _ _⟩ ?_
  refine mb_l_cons ⟨mm_iald _, ml_iald _⟩ ?_
  refine mb_l_cons ⟨mm_irem _, ml_irem _⟩ ?_
  refine mb_l_cons ⟨mm_push _ _, ml_push _ _⟩ ?_
  refine mb_l_cons ⟨mm_push _ _, ml_push _ _⟩ ?_
  refine mb_l_cons ⟨mm_push _ _, ml_push _ _⟩ ?_
  refine mb_l_cons ⟨mm_calls _ _ _, ml_calls _ _ _⟩ ?_
  refine mb_l_cons ⟨mm_ild _ _, ml_ild _ _⟩ ?_
  refine mb_l_cons ⟨mm_if2 _ _ _, ml_if2 _ _ _⟩ ?_
  refine mb_l_cons ⟨mm_push _ _, ml_push _ _⟩ ?_
  refine mb_l_cons ⟨mm_go _, ml_go _⟩ ?_
  refine mb_l_cons ⟨mm_push _ _, ml_push _ _⟩ ?_
  refine mb_l_cons ⟨mm_ist _ _, ml_ist _ _⟩ ?_
  refine mb_l_cons ⟨mm_iinc _ _ _, ml_iinc _ _ _⟩ ?_
  refine mb_l_cons ⟨mm_go _, ml_go _⟩ ?_
  refine mb_l_cons ⟨mm_ild _ _, ml_ild _ _⟩ ?_
  refine mb_l_cons ⟨mm_push _ _, ml_push _ _⟩ ?_
  refine mb_l_cons ⟨mm_if2 _ _ _, ml_if2 _ _ _⟩ ?_
  refine mb_l_cons ⟨mm_ild _ _, ml_ild _ _⟩ ?_
  refine mb_l_cons ⟨mm_if1 _ _ _, ml_if1 _ _ _⟩ ?_
  refine mb_l_cons ⟨mm_ald _ _, ml_ald _ _⟩ ?_
  refine mb_l_cons ⟨mm_push _ _, ml_push _ _⟩ ?_
  refine mb_l_cons ⟨mm_callv _ _ _ _ _, ml_callv _ _ _ _ _⟩ ?_
  refine mb_l_cons ⟨mm_ist _ _, ml_ist _ _⟩ ?_
  refine mb_l_cons ⟨mm_ald _ _, ml_ald _ _⟩ ?_
  refine mb_l_cons ⟨mm_push _ _, ml_push _ _⟩ ?_
  refine mb_l_cons ⟨mm_ild _ _, ml_ild _ _⟩ ?_
  refine mb_l_cons ⟨mm_push _ _, ml_push _ _⟩ ?_
  refine mb_l_cons ⟨mm_ishr _, ml_ishr _⟩ ?_
  refine mb_l_cons ⟨mm_ild _ _, ml_ild _ _⟩ ?_
  refine mb_l_cons ⟨mm_irem _, ml_irem _⟩ ?_
  refine mb_l_cons ⟨mm_push _ _, ml_push _ _⟩ ?_
  refine mb_l_cons ⟨mm_push _ _, ml_push _ _⟩ ?_
  refine mb_l_cons ⟨mm_push _ _, ml_push _ _⟩ ?_
  refine mb_l_cons ⟨mm_push _ _, ml_push _ _⟩ ?_
  refine mb_l_cons ⟨mm_calls _ _ _, ml_calls _ _ _⟩ ?_
  refine mb_l_cons ⟨mm_ist _ _, ml_ist _ _⟩ ?_
  refine mb_l_cons ⟨mm_ild _ _, ml_ild _ _⟩ ?_
  refine mb_l_cons ⟨mm_if1 _ _ _, ml_if1 _ _ _⟩ ?_
  refine mb_l_cons ⟨mm_ald _ _, ml_ald _ _⟩ ?_
  refine mb_l_cons ⟨mm_push _ _, ml_push _ _⟩ ?_
  refine mb_l_cons ⟨mm_callv _ _ _ _ _, ml_callv _ _ _ _ _⟩ ?_
  refine mb_l_cons ⟨mm_ild _ _, ml_ild _ _⟩ ?_
  refine mb_l_cons ⟨mm_push _ _, ml_push _ _⟩ ?_
  refine mb_l_cons ⟨mm_isub _, ml_isub _⟩ ?_
  refine mb_l_cons ⟨mm_if2 _ _ _, ml_if2 _ _ _⟩ ?_
  refine mb_l_cons ⟨mm_ild _ _, ml_ild _ _⟩ ?_
  refine mb_l_cons ⟨mm_ild _ _, ml_ild _ _⟩ ?_
  refine mb_l_cons ⟨mm_push _ _, ml_push _ _⟩ ?_
  refine mb_l_cons ⟨mm_isub _, ml_isub _⟩ ?_
  refine mb_l_cons ⟨mm_if2 _ _ _, ml_if2 _ _ _⟩ ?_
  refine mb_l_cons ⟨mm_push _ _, ml_push _ _⟩ ?_
  refine mb_l_cons ⟨mm_go _, ml_go _⟩ ?_
  refine mb_l_cons ⟨mm_push _ _, ml_push _ _⟩ ?_
  refine mb_l_cons ⟨mm_go _, ml_go _⟩ ?_
  refine mb_l_cons ⟨mm_ild _ _, ml_ild _ _⟩ ?_
  refine mb_l_cons ⟨mm_push _ _, ml_push _ _⟩ ?_
  refine mb_l_cons ⟨mm_if2 _ _ _, ml_if2 _ _ _⟩ ?_
  refine mb_l_cons ⟨mm_ald _ _, ml_ald _ _⟩ ?_
  refine mb_l_cons ⟨mm_push _ _, ml_push _ _⟩ ?_
  refine mb_l_cons ⟨mm_callv _ _ _ _ _, ml_callv _ _ _ _ _⟩ ?_
  refine mb_l_cons ⟨mm_ild _ _, ml_ild _ _⟩ ?_
  refine mb_l_cons ⟨mm_if2 _ _ _, ml_if2 _ _ _⟩ ?_
  refine mb_l_cons ⟨mm_push _ _, ml_push _ _⟩ ?_
  refine mb_l_cons ⟨mm_go _, ml_go _⟩ ?_
  refine mb_l_cons ⟨mm_push _ _, ml_push _ _⟩ ?_
  refine mb_l_cons ⟨mm_ist _ _, ml_ist _ _⟩ ?_
  refine mb_l_cons ⟨mm_go _, ml_go _⟩ ?_
  refine mb_l_cons ⟨mm_ild _ _, ml_ild _ _⟩ ?_
  refine mb_l_cons ⟨mm_push _ _, ml_push _ _⟩ ?_
  refine mb_l_cons ⟨mm_if2 _ _ _, ml_if2 _ _ _⟩ ?_
  refine mb_l_cons ⟨mm_ild _ _, ml_ild _ _⟩ ?_
  refine mb_l_cons ⟨mm_push _ _, ml_push _ _⟩ ?_
  refine mb_l_cons ⟨mm_ishr _, ml_ishr _⟩ ?_
  refine mb_l_cons ⟨mm_ald _ _, ml_ald _ _⟩ ?_
  refine mb_l_cons ⟨mm_ild _ _, ml_ild _ _⟩ ?_
  refine mb_l_cons ⟨mm_iald _, ml_iald _⟩ ?_
  refine mb_l_cons ⟨mm_irem _, ml_irem _⟩ ?_
  refine mb_l_cons ⟨mm_ist _ _, ml_ist _ _⟩ ?_
  refine mb_l_cons ⟨mm_ald _ _, ml_ald _ _⟩ ?_
  refine mb_l_cons ⟨mm_ild _ _, ml_ild _ _⟩ ?_
  refine mb_l_cons ⟨mm_ild _ _, ml_ild _ _⟩ ?_
  refine mb_l_cons ⟨mm_push _ _, ml_push _ _⟩ ?_
  refine mb_l_cons ⟨mm_callv _ _ _ _ _, ml_callv _ _ _ _ _⟩ ?_
  refine mb_l_cons ⟨mm_ist _ _, ml_ist _ _⟩ ?_
  refine mb_l_cons ⟨mm_ald _ _, ml_ald _ _⟩ ?_
  refine mb_l_cons ⟨mm_push _ _, ml_push _ _⟩ ?_
  refine mb_l_cons ⟨mm_callv _ _ _ _ _, ml_callv _ _ _ _ _⟩ ?_
  refine mb_l_cons ⟨mm_ist _ _, ml_ist _ _⟩ ?_
  refine mb_l_cons ⟨mm_ald _ _, ml_ald _ _⟩ ?_
  refine mb_l_cons ⟨mm_ild _ _, ml_ild _ _⟩ ?_
  refine mb_l_cons ⟨mm_ild _ _, ml_ild _ _⟩ ?_
  refine mb_l_cons ⟨mm_push _ _, ml_push _ _⟩ ?_
  refine mb_l_cons ⟨mm_callv _ _ _ _ _, ml_callv _ _ _ _ _⟩ ?_
  refine mb_l_cons ⟨mm_ist _ _, ml_ist _ _⟩ ?_
  refine mb_l_cons ⟨mm_ald _ _, ml_ald _ _⟩ ?_
  refine mb_l_cons ⟨mm_push _ _, ml_push _ _⟩ ?_
  refine mb_l_cons ⟨mm_ild _ _, ml_ild _ _⟩ ?_
  refine mb_l_cons ⟨mm_ild _ _, ml_ild _ _⟩ ?_
  refine mb_l_cons ⟨mm_push _ _, ml_push _ _⟩ ?_
  refine mb_l_cons ⟨mm_push _ _, ml_push _ _⟩ ?_
  refine mb_l_cons ⟨mm_push _ _, ml_push _ _⟩ ?_
  refine mb_l_cons ⟨mm_calls _ _ _, ml_calls _ _ _⟩ ?_
  refine mb_l_cons ⟨mm_ild _ _, ml_ild _ _⟩ ?_
  refine mb_l_cons ⟨mm_if2 _ _ _, ml_if2 _ _ _⟩ ?_
  refine mb_l_cons ⟨mm_ald _ _, ml_ald _ _⟩ ?_
  refine mb_l_cons ⟨mm_ild _ _, ml_ild _ _⟩ ?_
  refine mb_l_cons ⟨mm_ild _ _, ml_ild _ _⟩ ?_
  refine mb_l_cons ⟨mm_push _ _, ml_push _ _⟩ ?_
  refine mb_l_cons ⟨mm_callv _ _ _ _ _, ml_callv _ _ _ _ _⟩ ?_
  refine mb_l_cons ⟨mm_if1 _ _ _, ml_if1 _ _ _⟩ ?_
  refine mb_l_cons ⟨mm_ald _ _, ml_ald _ _⟩ ?_
  refine mb_l_cons ⟨mm_ild _ _, ml_ild _ _⟩ ?_
  refine mb_l_cons ⟨mm_ild _ _, ml_ild _ _⟩ ?_
  refine mb_l_cons ⟨mm_push _ _, ml_push _ _⟩ ?_
  refine mb_l_cons ⟨mm_callv _ _ _ _ _, ml_callv _ _ _ _ _⟩ ?_
  refine mb_l_cons ⟨mm_ild _ _, ml_ild _ _⟩ ?_
  refine mb_l_cons ⟨mm_push _ _, ml_push _ _⟩ ?_
  refine mb_l_cons ⟨mm_iadd _, ml_iadd _⟩ ?_
  refine mb_l_cons ⟨mm_if2 _ _ _, ml_if2 _ _ _⟩ ?_
  refine mb_l_cons ⟨mm_ald _ _, ml_ald _ _⟩ ?_
  refine mb_l_cons ⟨mm_push _ _, ml_push _ _⟩ ?_
  refine mb_l_cons ⟨mm_callv _ _ _ _ _, ml_callv _ _ _ _ _⟩ ?_
  refine mb_l_cons ⟨mm_ild _ _, ml_ild _ _⟩ ?_
  refine mb_l_cons ⟨mm_push _ _, ml_push _ _⟩ ?_
  refine mb_l_cons ⟨mm_iadd _, ml_iadd _⟩ ?_
  refine mb_l_cons ⟨mm_if2 _ _ _, ml_if2 _ _ _⟩ ?_
  refine mb_l_cons ⟨mm_push _ _, ml_push _ _⟩ ?_
  refine mb_l_cons ⟨mm_go _, ml_go _⟩ ?_
  refine mb_l_cons ⟨mm_push _ _, ml_push _ _⟩ ?_
  refine mb_l_cons ⟨mm_ist _ _, ml_ist _ _⟩ ?_
  refine mb_l_cons ⟨mm_go _, ml_go _⟩ ?_
  refine mb_l_cons ⟨mm_ild _ _, ml_ild _ _⟩ ?_
  refine mb_l_cons ⟨mm_push _ _, ml_push _ _⟩ ?_
  refine mb_l_cons ⟨mm_if2 _ _ _, ml_if2 _ _ _⟩ ?_
  refine mb_l_cons ⟨mm_iinc _ _ _, ml_iinc _ _ _⟩ ?_
  refine mb_l_cons ⟨mm_ald _ _, ml_ald _ _⟩ ?_
  refine mb_l_cons ⟨mm_ild _ _, ml_ild _ _⟩ ?_
  refine mb_l_cons ⟨mm_ald _ _, ml_ald _ _⟩ ?_
  refine mb_l_cons ⟨mm_ild _ _, ml_ild _ _⟩ ?_
  refine mb_l_cons ⟨mm_iald _, ml_iald _⟩ ?_
  refine mb_l_cons ⟨mm_ild _ _, ml_ild _ _⟩ ?_
  refine mb_l_cons ⟨mm_calls _ _ _, ml_calls _ _ _⟩ ?_
  refine mb_l_cons ⟨mm_ist _ _, ml_ist _ _⟩ ?_
  refine mb_l_cons ⟨mm_ild _ _, ml_ild _ _⟩ ?_
  refine mb_l_cons ⟨mm_if1 _ _ _, ml_if1 _ _ _⟩ ?_
  refine mb_l_cons ⟨mm_ild _ _, ml_ild _ _⟩ ?_
  refine mb_l_cons ⟨mm_push _ _, ml_push _ _⟩ ?_
  refine mb_l_cons ⟨mm_iand _, ml_iand _⟩ ?_
  refine mb_l_cons ⟨mm_if1 _ _ _, ml_if1 _ _ _⟩ ?_
  refine mb_l_cons ⟨mm_ald _ _, ml_ald _ _⟩ ?_
  refine mb_l_cons ⟨mm_push _ _, ml_push _ _⟩ ?_
  refine mb_l_cons ⟨mm_callv _ _ _ _ _, ml_callv _ _ _ _ _⟩ ?_
  refine mb_l_cons ⟨mm_ist _ _, ml_ist _ _⟩ ?_
  refine mb_l_cons ⟨mm_ald _ _, ml_ald _ _⟩ ?_
  refine mb_l_cons ⟨mm_ild _ _, ml_ild _ _⟩ ?_
  refine mb_l_cons ⟨mm_callv _ _ _ _ _, ml_callv _ _ _ _ _⟩ ?_
  refine mb_l_cons ⟨mm_ist _ _, ml_ist _ _⟩ ?_
  refine mb_l_cons ⟨mm_ald _ _, ml_ald _ _⟩ ?_
  refine mb_l_cons ⟨mm_ild _ _, ml_ild _ _⟩ ?_
  refine mb_l_cons ⟨mm_callv _ _ _ _ _, ml_callv _ _ _ _ _⟩ ?_
  refine mb_l_cons ⟨mm_ild _ _, ml_ild _ _⟩ ?_
  refine mb_l_cons ⟨mm_if2 _ _ _, ml_if2 _ _ _⟩ ?_
  refine mb_l_cons ⟨mm_ald _ _, ml_ald _ _⟩ ?_
  refine mb_l_cons ⟨mm_ild _ _, ml_ild _ _⟩ ?_
  refine mb_l_cons ⟨mm_callv _ _ _ _ _, ml_callv _ _ _ _ _⟩ ?_
  refine mb_l_cons ⟨mm_if1 _ _ _, ml_if1 _ _ _⟩ ?_
  refine mb_l_cons ⟨mm_ald _ _, ml_ald _ _⟩ ?_
  refine mb_l_cons ⟨mm_ild _ _, ml_ild _ _⟩ ?_
  refine mb_l_cons ⟨mm_callv _ _ _ _ _, ml_callv _ _ _ _ _⟩ ?_
  refine mb_l_cons ⟨mm_if1 _ _ _, ml_if1 _ _ _⟩ ?_
  refine mb_l_cons ⟨mm_ald _ _, ml_ald _ _⟩ ?_
  refine mb_l_cons ⟨mm_ild _ _, ml_ild _ _⟩ ?_
  refine mb_l_cons ⟨mm_callv _ _ _ _ _, ml_callv _ _ _ _ _⟩ ?_
  refine mb_l_cons ⟨mm_if1 _ _ _, ml_if1 _ _ _⟩ ?_
  refine mb_l_cons ⟨mm_ald _ _, ml_ald _ _⟩ ?_
  refine mb_l_cons ⟨mm_push _ _, ml_push _ _⟩ ?_
  refine mb_l_cons ⟨mm_callv _ _ _ _ _, ml_callv _ _ _ _ _⟩ ?_
  refine mb_l_cons ⟨mm_ild _ _, ml_ild _ _⟩ ?_
  refine mb_l_cons ⟨mm_ild _ _, ml_ild _ _⟩ ?_
  refine mb_l_cons ⟨mm_iadd _, ml_iadd _⟩ ?_
  refine mb_l_cons ⟨mm_if2 _ _ _, ml_if2 _ _ _⟩ ?_
  refine mb_l_cons ⟨mm_ald _ _, ml_ald _ _⟩ ?_
  refine mb_l_cons ⟨mm_ild _ _, ml_ild _ _⟩ ?_
  refine mb_l_cons ⟨mm_ald _ _, ml_ald _ _⟩ ?_
  refine mb_l_cons ⟨mm_ild _ _, ml_ild _ _⟩ ?_
  refine mb_l_cons ⟨mm_iald _, ml_iald _⟩ ?_
  refine mb_l_cons ⟨mm_ild _ _, ml_ild _ _⟩ ?_
  refine mb_l_cons ⟨mm_calls _ _ _, ml_calls _ _ _⟩ ?_
  refine mb_l_cons ⟨mm_if1 _ _ _, ml_if1 _ _ _⟩ ?_
  refine mb_l_cons ⟨mm_push _ _, ml_push _ _⟩ ?_
  refine mb_l_cons ⟨mm_go _, ml_go _⟩ ?_
  refine mb_l_cons ⟨mm_push _ _, ml_push _ _⟩ ?_
  refine mb_l_cons ⟨mm_ist _ _, ml_ist _ _⟩ ?_
  refine mb_l_cons ⟨mm_ald _ _, ml_ald _ _⟩ ?_
  refine mb_l_cons ⟨mm_ild _ _, ml_ild _ _⟩ ?_
  refine mb_l_cons ⟨mm_iald _, ml_iald _⟩ ?_
  refine mb_l_cons ⟨mm_if1 _ _ _, ml_if1 _ _ _⟩ ?_
  refine mb_l_cons ⟨mm_push _ _, ml_push _ _⟩ ?_
  refine mb_l_cons ⟨mm_go _, ml_go _⟩ ?_
  refine mb_l_cons ⟨mm_ild _ _, ml_ild _ _⟩ ?_
  refine mb_l_cons ⟨mm_push _ _, ml_push _ _⟩ ?_
  refine mb_l_cons ⟨mm_ishr _, ml_ishr _⟩ ?_
  refine mb_l_cons ⟨mm_ald _ _, ml_ald _ _⟩ ?_
  refine mb_l_cons ⟨mm_ild _ _, ml_ild _ _⟩ ?_
  refine mb_l_cons ⟨mm_iald _, ml_iald _⟩ ?_
  refine mb_l_cons ⟨mm_irem _, ml_irem _⟩ ?_
  refine mb_l_cons ⟨mm_ist _ _, ml_ist _ _⟩ ?_
  refine mb_l_cons ⟨mm_ild _ _, ml_ild _ _⟩ ?_
  refine mb_l_cons ⟨mm_if1 _ _ _, ml_if1 _ _ _⟩ ?_
  refine mb_l_cons ⟨mm_ild _ _, ml_ild _ _⟩ ?_
  refine mb_l_cons ⟨mm_if1 _ _ _, ml_if1 _ _ _⟩ ?_
  refine mb_l_cons ⟨mm_ald _ _, ml_ald _ _⟩ ?_
  refine mb_l_cons ⟨mm_ild _ _, ml_ild _ _⟩ ?_
  refine mb_l_cons ⟨mm_ild _ _, ml_ild _ _⟩ ?_
  refine mb_l_cons ⟨mm_ald _ _, ml_ald _ _⟩ ?_
  refine mb_l_cons ⟨mm_push _ _, ml_push _ _⟩ ?_
  refine mb_l_cons ⟨mm_ild _ _, ml_ild _ _⟩ ?_
  refine mb_l_cons ⟨mm_imul _, ml_imul _⟩ ?_
  refine mb_l_cons ⟨mm_ild _ _, ml_ild _ _⟩ ?_
  refine mb_l_cons ⟨mm_iadd _, ml_iadd _⟩ ?_
  refine mb_l_cons ⟨mm_iald _, ml_iald _⟩ ?_
  refine mb_l_cons ⟨mm_calls _ _ _, ml_calls _ _ _⟩ ?_
  refine mb_l_cons ⟨mm_ald _ _, ml_ald _ _⟩ ?_
  refine mb_l_cons ⟨mm_push _ _, ml_push _ _⟩ ?_
  refine mb_l_cons ⟨mm_ild _ _, ml_ild _ _⟩ ?_
  refine mb_l_cons ⟨mm_imul _, ml_imul _⟩ ?_
  refine mb_l_cons ⟨mm_ild _ _, ml_ild _ _⟩ ?_
  refine mb_l_cons ⟨mm_iadd _, ml_iadd _⟩ ?_
  refine mb_l_cons ⟨mm_iald _, ml_iald _⟩ ?_
  refine mb_l_cons ⟨mm_if2 _ _ _, ml_if2 _ _ _⟩ ?_
  refine mb_l_cons ⟨mm_ald _ _, ml_ald _ _⟩ ?_
  refine mb_l_cons ⟨mm_push _ _, ml_push _ _⟩ ?_
  refine mb_l_cons ⟨mm_callv _ _ _ _ _, ml_callv _ _ _ _ _⟩ ?_
  refine mb_l_cons ⟨mm_ald _ _, ml_ald _ _⟩ ?_
  refine mb_l_cons ⟨mm_push _ _, ml_push _ _⟩ ?_
  refine mb_l_cons ⟨mm_iald _, ml_iald _⟩ ?_
  refine mb_l_cons ⟨mm_ald _ _, ml_ald _ _⟩ ?_
  refine mb_l_cons ⟨mm_push _ _, ml_push _ _⟩ ?_
  refine mb_l_cons ⟨mm_iald _, ml_iald _⟩ ?_
  refine mb_l_cons ⟨mm_iadd _, ml_iadd _⟩ ?_
  refine mb_l_cons ⟨mm_if2 _ _ _, ml_if2 _ _ _⟩ ?_
  refine mb_l_cons ⟨mm_ald _ _, ml_ald _ _⟩ ?_
  refine mb_l_cons ⟨mm_push _ _, ml_push _ _⟩ ?_
  refine mb_l_cons ⟨mm_callv _ _ _ _ _, ml_callv _ _ _ _ _⟩ ?_
  refine mb_l_cons ⟨mm_ald _ _, ml_ald _ _⟩ ?_
  refine mb_l_cons ⟨mm_push _ _, ml_push _ _⟩ ?_
  refine mb_l_cons ⟨mm_iald _, ml_iald _⟩ ?_
  refine mb_l_cons ⟨mm_ald _ _, ml_ald _ _⟩ ?_
  refine mb_l_cons ⟨mm_push _ _, ml_push _ _⟩ ?_
  refine mb_l_cons ⟨mm_iald _, ml_iald _⟩ ?_
  refine mb_l_cons ⟨mm_iadd _, ml_iadd _⟩ ?_
  refine mb_l_cons ⟨mm_if2 _ _ _, ml_if2 _ _ _⟩ ?_
  refine mb_l_cons ⟨mm_push _ _, ml_push _ _⟩ ?_
  refine mb_l_cons ⟨mm_go _, ml_go _⟩ ?_
  refine mb_l_cons ⟨mm_push _ _, ml_push _ _⟩ ?_
  refine mb_l_cons ⟨mm_ist _ _, ml_ist _ _⟩ ?_
  refine mb_l_cons ⟨mm_iinc _ _ _, ml_iinc _ _ _⟩ ?_
  refine mb_l_cons ⟨mm_go _, ml_go _⟩ ?_
  refine mb_l_cons ⟨mm_ild _ _, ml_ild _ _⟩ ?_
  refine mb_l_cons ⟨mm_zret, ml_zret⟩ ?_
  exact mb_l_nil
theorem mb_all_good : ∀ l ∈ mb_codes, ∀ pc i, mb_look l pc = some i → mb_Mon i ∧ mb_Le i := by
  unfold mb_codes
  refine List.forall_mem_cons.mpr ⟨mz_X0_init, ?_⟩
  refine List.forall_mem_cons.mpr ⟨mz_X0_addVersion, ?_⟩
  refine List.forall_mem_cons.mpr ⟨mz_X0_versionAt, ?_⟩
  refine List.forall_mem_cons.mpr ⟨mz_X0_looksAlike, ?_⟩
  refine List.forall_mem_cons.mpr ⟨mz_X1_init, ?_⟩
  refine List.forall_mem_cons.mpr ⟨mz_X1_covers, ?_⟩
  refine List.forall_mem_cons.mpr ⟨mz_X2_init, ?_⟩
  refine List.forall_mem_cons.mpr ⟨mz_X2_keysAhead, ?_⟩
  refine List.forall_mem_cons.mpr ⟨mz_X2_standsAt, ?_⟩
  refine List.forall_mem_cons.mpr ⟨mz_X2_hasRoomFor, ?_⟩
  refine List.forall_mem_cons.mpr ⟨mz_X2_put, ?_⟩
  refine List.forall_mem_cons.mpr ⟨mz_X2_take, ?_⟩
  refine List.forall_mem_cons.mpr ⟨mz_X2_moveKey, ?_⟩
  refine List.forall_mem_cons.mpr ⟨mz_X2_valueAt, ?_⟩
  refine List.forall_mem_cons.mpr ⟨mz_X2_valueAhead, ?_⟩
  refine List.forall_mem_cons.mpr ⟨mz_X2_copy, ?_⟩
  refine List.forall_mem_cons.mpr ⟨mz_X3_init, ?_⟩
  refine List.forall_mem_cons.mpr ⟨mz_X3_versionOf, ?_⟩
  refine List.forall_mem_cons.mpr ⟨mz_X3_keepVersion, ?_⟩
  refine List.forall_mem_cons.mpr ⟨mz_X4_init, ?_⟩
  refine List.forall_mem_cons.mpr ⟨mz_X4_followCut, ?_⟩
  refine List.forall_mem_cons.mpr ⟨mz_X5_init, ?_⟩
  refine List.forall_mem_cons.mpr ⟨mz_X5_hasBone, ?_⟩
  refine List.forall_mem_cons.mpr ⟨mz_X5_curveOf, ?_⟩
  refine List.forall_mem_cons.mpr ⟨mz_X5_addBone, ?_⟩
  refine List.forall_mem_cons.mpr ⟨mz_X5_append, ?_⟩
  refine List.forall_mem_cons.mpr ⟨mz_X5_ownValue, ?_⟩
  refine List.forall_mem_cons.mpr ⟨mz_X5_poseUpwards, ?_⟩
  refine List.forall_mem_cons.mpr ⟨mz_X5_poseAt, ?_⟩
  refine List.forall_mem_cons.mpr ⟨mz_X5_looksLike, ?_⟩
  refine List.forall_mem_cons.mpr ⟨mz_X5_versionOfIt, ?_⟩
  refine List.forall_mem_cons.mpr ⟨mz_X5_fixPoses, ?_⟩
  refine List.forall_mem_cons.mpr ⟨mz_X6_init, ?_⟩
  refine List.forall_mem_cons.mpr ⟨mz_X6_hasFrame, ?_⟩
  refine List.forall_mem_cons.mpr ⟨mz_X6_frameAt, ?_⟩
  refine List.forall_mem_cons.mpr ⟨mz_X6_castingOf, ?_⟩
  refine List.forall_mem_cons.mpr ⟨mz_X6_setCasting, ?_⟩
  refine List.forall_mem_cons.mpr ⟨mz_X6_removeFrames, ?_⟩
  refine List.forall_mem_cons.mpr ⟨mz_X6_follows, ?_⟩
  refine List.forall_mem_cons.mpr ⟨mz_X6_keepsUnlikeVersions, ?_⟩
  refine List.forall_mem_cons.mpr ⟨mz_X7_init, ?_⟩
  refine List.forall_mem_cons.mpr ⟨mz_X7_asset, ?_⟩
  refine List.forall_mem_cons.mpr ⟨mz_X7_bone, ?_⟩
  refine List.forall_mem_cons.mpr ⟨mz_X7_key, ?_⟩
  refine List.forall_mem_cons.mpr ⟨mz_X7_unkey, ?_⟩
  refine List.forall_mem_cons.mpr ⟨mz_X7_publish, ?_⟩
  refine List.forall_mem_cons.mpr ⟨mz_X7_pose, ?_⟩
  refine List.forall_mem_cons.mpr ⟨mz_X7_poseAnew, ?_⟩
  refine List.forall_mem_cons.mpr ⟨mz_X7_ofAsset, ?_⟩
  refine List.forall_mem_cons.mpr ⟨mz_X7_scene, ?_⟩
  refine List.forall_mem_cons.mpr ⟨mz_X7_cast, ?_⟩
  refine List.forall_mem_cons.mpr ⟨mz_X7_cut, ?_⟩
  refine List.forall_mem_cons.mpr ⟨mz_X7_note, ?_⟩
  refine List.forall_mem_cons.mpr ⟨mz_X7_settle, ?_⟩
  refine List.forall_mem_cons.mpr ⟨mz_X7_ofNote, ?_⟩
  refine List.forall_mem_cons.mpr ⟨mz_X7_render, ?_⟩
  refine List.forall_mem_cons.mpr ⟨mz_X7_renderOne, ?_⟩
  refine List.forall_mem_cons.mpr ⟨mz_X7_needs, ?_⟩
  refine List.forall_mem_cons.mpr ⟨mz_X7_mixes, ?_⟩
  refine List.forall_mem_cons.mpr ⟨mz_X7_ofFrame, ?_⟩
  refine List.forall_mem_cons.mpr ⟨mz_X7_kept, ?_⟩
  refine List.forall_mem_cons.mpr ⟨mz_X7_count, ?_⟩
  refine List.forall_mem_cons.mpr ⟨mz_X7_assetAt, ?_⟩
  refine List.forall_mem_cons.mpr ⟨mz_X7_sceneAt, ?_⟩
  refine List.forall_mem_cons.mpr ⟨mz_X7_noteAt, ?_⟩
  refine List.forall_mem_cons.mpr ⟨mz_X7_draftCurve, ?_⟩
  refine List.forall_mem_cons.mpr ⟨mz_X7_rigOf, ?_⟩
  refine List.forall_mem_cons.mpr ⟨mz_X7_isCurveFrame, ?_⟩
  refine List.forall_mem_cons.mpr ⟨mz_X7_canBeShown, ?_⟩
  refine List.forall_mem_cons.mpr ⟨mz_X7_seenVersion, ?_⟩
  refine List.forall_mem_cons.mpr ⟨mz_X7_seenRig, ?_⟩
  refine List.forall_mem_cons.mpr ⟨mz_X7_bonesSeen, ?_⟩
  refine List.forall_mem_cons.mpr ⟨mz_X7_keepVersions, ?_⟩
  refine List.forall_mem_cons.mpr ⟨mz_X7_countRendering, ?_⟩
  refine List.forall_mem_cons.mpr ⟨mz_X7_isStale, ?_⟩
  refine List.forall_mem_cons.mpr ⟨mz_X7_staleFrames, ?_⟩
  refine List.forall_mem_cons.mpr ⟨mz_X7_moveNotes, ?_⟩
  refine List.forall_mem_cons.mpr ⟨mz_X7_openNotesOfScene, ?_⟩
  refine List.forall_mem_cons.mpr ⟨mz_X7_openNotesOfFrame, ?_⟩
  refine List.forall_mem_cons.mpr ⟨mz_X7_scenesThatCast, ?_⟩
  refine List.forall_mem_cons.mpr ⟨mz_X7_allVersions, ?_⟩
  refine List.forall_mem_cons.mpr ⟨mz_X7_allFrames, ?_⟩
  refine List.forall_mem_cons.mpr ⟨mz_X7_allStaleFrames, ?_⟩
  refine List.forall_mem_cons.mpr ⟨mz_X7_allOpenNotes, ?_⟩
  refine List.forall_mem_cons.mpr ⟨mz_J9_floorDiv_7cf53, ?_⟩
  refine List.forall_mem_cons.mpr ⟨mz_L_call, ?_⟩
  refine List.forall_mem_cons.mpr ⟨mz_L_ask, ?_⟩
  refine List.forall_mem_cons.mpr ⟨mz_L_draw, ?_⟩
  refine List.forall_mem_cons.mpr ⟨mz_L_poses, ?_⟩
  refine List.forall_mem_cons.mpr ⟨mz_L_areFrames, ?_⟩
  refine List.forall_mem_cons.mpr ⟨mz_L_law, ?_⟩
  exact fun _ h => absurd h List.not_mem_nil
theorem mb_good : mb_Good := by
  intro y pc i h
  unfold mb_prog at h
  split at h
  · rename_i l hl
    exact mb_all_good l (List.mem_of_getElem? hl) pc i h
  · cases h
