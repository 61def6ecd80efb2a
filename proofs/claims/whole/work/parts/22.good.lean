/-! every row: the heap grows, more fuel does no harm -/
theorem mz_X0_init : ∀ pc i, mb_look mc_X0_init pc = some i → mb_Mon i ∧ mb_Le i := by
  unfold mc_X0_init
  refine mb_l_cons ⟨mm_ald _ _, ml_ald _ _⟩ ?_
  refine mb_l_cons ⟨mm_oinit _, ml_oinit _⟩ ?_
  refine mb_l_cons ⟨mm_ald _ _, ml_ald _ _⟩ ?_
  refine mb_l_cons ⟨mm_new _ _ _, ml_new _ _ _⟩ ?_
  refine mb_l_cons ⟨mm_dup _, ml_dup _⟩ ?_
  refine mb_l_cons ⟨mm_calli _ _ _, ml_calli _ _ _⟩ ?_
  refine mb_l_cons ⟨mm_putf _ _ _ _, ml_putf _ _ _ _⟩ ?_
  refine mb_l_cons ⟨mm_ald _ _, ml_ald _ _⟩ ?_
  refine mb_l_cons ⟨mm_push _ _, ml_push _ _⟩ ?_
  refine mb_l_cons ⟨mm_newq _ _, ml_newq _ _⟩ ?_
  refine mb_l_cons ⟨mm_putf _ _ _ _, ml_putf _ _ _ _⟩ ?_
  refine mb_l_cons ⟨mm_vret, ml_vret⟩ ?_
  exact mb_l_nil
theorem mz_X0_addVersion : ∀ pc i, mb_look mc_X0_addVersion pc = some i → mb_Mon i ∧ mb_Le i := by
  unfold mc_X0_addVersion
  refine mb_l_cons ⟨mm_ald _ _, ml_ald _ _⟩ ?_
  refine mb_l_cons ⟨mm_getf _ _ _, ml_getf _ _ _⟩ ?_
  refine mb_l_cons ⟨mm_push _ _, ml_push _ _⟩ ?_
  refine mb_l_cons ⟨mm_if2 _ _ _, ml_if2 _ _ _⟩ ?_
  refine mb_l_cons ⟨mm_push _ _, ml_push _ _⟩ ?_
  refine mb_l_cons ⟨mm_iret, ml_iret⟩ ?_
  refine mb_l_cons ⟨mm_ald _ _, ml_ald _ _⟩ ?_
  refine mb_l_cons ⟨mm_getf _ _ _, ml_getf _ _ _⟩ ?_
  refine mb_l_cons ⟨mm_ald _ _, ml_ald _ _⟩ ?_
  refine mb_l_cons ⟨mm_getf _ _ _, ml_getf _ _ _⟩ ?_
  refine mb_l_cons ⟨mm_ald _ _, ml_ald _ _⟩ ?_
  refine mb_l_cons ⟨mm_getf _ _ _, ml_getf _ _ _⟩ ?_
  refine mb_l_cons ⟨mm_callv _ _ _ _ _, ml_callv _ _ _ _ _⟩ ?_
  refine mb_l_cons ⟨mm_aast _ _, ml_aast _ _⟩ ?_
  refine mb_l_cons ⟨mm_ald _ _, ml_ald _ _⟩ ?_
  refine mb_l_cons ⟨mm_dup _, ml_dup _⟩ ?_
  refine mb_l_cons ⟨mm_getf _ _ _, ml_getf _ _ _⟩ ?_
  refine mb_l_cons ⟨mm_dupx1 _, ml_dupx1 _⟩ ?_
  refine mb_l_cons ⟨mm_push _ _, ml_push _ _⟩ ?_
  refine mb_l_cons ⟨mm_iadd _, ml_iadd _⟩ ?_
  refine mb_l_cons ⟨mm_putf _ _ _ _, ml_putf _ _ _ _⟩ ?_
  refine mb_l_cons ⟨mm_iret, ml_iret⟩ ?_
  exact mb_l_nil
theorem mz_X0_versionAt : ∀ pc i, mb_look mc_X0_versionAt pc = some i → mb_Mon i ∧ mb_Le i := by
  unfold mc_X0_versionAt
  refine mb_l_cons ⟨mm_ild _ _, ml_ild _ _⟩ ?_
  refine mb_l_cons ⟨mm_if1 _ _ _, ml_if1 _ _ _⟩ ?_
  refine mb_l_cons ⟨mm_ild _ _, ml_ild _ _⟩ ?_
  refine mb_l_cons ⟨mm_ald _ _, ml_ald _ _⟩ ?_
  refine mb_l_cons ⟨mm_getf _ _ _, ml_getf _ _ _⟩ ?_
  refine mb_l_cons ⟨mm_if2 _ _ _, ml_if2 _ _ _⟩ ?_
  refine mb_l_cons ⟨mm_push _ _, ml_push _ _⟩ ?_
  refine mb_l_cons ⟨mm_go _, ml_go _⟩ ?_
  refine mb_l_cons ⟨mm_ald _ _, ml_ald _ _⟩ ?_
  refine mb_l_cons ⟨mm_getf _ _ _, ml_getf _ _ _⟩ ?_
  refine mb_l_cons ⟨mm_ild _ _, ml_ild _ _⟩ ?_
  refine mb_l_cons ⟨mm_aald _, ml_aald _⟩ ?_
  refine mb_l_cons ⟨mm_aret, ml_aret⟩ ?_
  exact mb_l_nil
theorem mz_X0_looksAlike : ∀ pc i, mb_look mc_X0_looksAlike pc = some i → mb_Mon i ∧ mb_Le i := by
  unfold mc_X0_looksAlike
  refine mb_l_cons ⟨mm_ild _ _, ml_ild _ _⟩ ?_
  refine mb_l_cons ⟨mm_ild _ _, ml_ild _ _⟩ ?_
  refine mb_l_cons ⟨mm_if2 _ _ _, ml_if2 _ _ _⟩ ?_
  refine mb_l_cons ⟨mm_push _ _, ml_push _ _⟩ ?_
  refine mb_l_cons ⟨mm_zret, ml_zret⟩ ?_
  refine mb_l_cons ⟨mm_ald _ _, ml_ald _ _⟩ ?_
  refine mb_l_cons ⟨mm_ild _ _, ml_ild _ _⟩ ?_
  refine mb_l_cons ⟨mm_callv _ _ _ _ _, ml_callv _ _ _ _ _⟩ ?_
  refine mb_l_cons ⟨mm_ast _ _, ml_ast _ _⟩ ?_
  refine mb_l_cons ⟨mm_ald _ _, ml_ald _ _⟩ ?_
  refine mb_l_cons ⟨mm_ild _ _, ml_ild _ _⟩ ?_
  refine mb_l_cons ⟨mm_callv _ _ _ _ _, ml_callv _ _ _ _ _⟩ ?_
  refine mb_l_cons ⟨mm_ast _ _, ml_ast _ _⟩ ?_
  refine mb_l_cons ⟨mm_ald _ _, ml_ald _ _⟩ ?_
  refine mb_l_cons ⟨mm_ifn _ _, ml_ifn _ _⟩ ?_
  refine mb_l_cons ⟨mm_ald _ _, ml_ald _ _⟩ ?_
  refine mb_l_cons ⟨mm_ifn _ _, ml_ifn _ _⟩ ?_
  refine mb_l_cons ⟨mm_ald _ _, ml_ald _ _⟩ ?_
  refine mb_l_cons ⟨mm_ald _ _, ml_ald _ _⟩ ?_
  refine mb_l_cons ⟨mm_ild _ _, ml_ild _ _⟩ ?_
  refine mb_l_cons ⟨mm_callv _ _ _ _ _, ml_callv _ _ _ _ _⟩ ?_
  refine mb_l_cons ⟨mm_if1 _ _ _, ml_if1 _ _ _⟩ ?_
  refine mb_l_cons ⟨mm_push _ _, ml_push _ _⟩ ?_
  refine mb_l_cons ⟨mm_go _, ml_go _⟩ ?_
  refine mb_l_cons ⟨mm_push _ _, ml_push _ _⟩ ?_
  refine mb_l_cons ⟨mm_zret, ml_zret⟩ ?_
  exact mb_l_nil
theorem mz_X1_init : ∀ pc i, mb_look mc_X1_init pc = some i → mb_Mon i ∧ mb_Le i := by
  unfold mc_X1_init
  refine mb_l_cons ⟨mm_ald _ _, ml_ald _ _⟩ ?_
  refine mb_l_cons ⟨mm_oinit _, ml_oinit _⟩ ?_
  refine mb_l_cons ⟨mm_vret, ml_vret⟩ ?_
  exact mb_l_nil
theorem mz_X1_covers : ∀ pc i, mb_look mc_X1_covers pc = some i → mb_Mon i ∧ mb_Le i := by
  unfold mc_X1_covers
  refine mb_l_cons ⟨mm_ild _ _, ml_ild _ _⟩ ?_
  refine mb_l_cons ⟨mm_ald _ _, ml_ald _ _⟩ ?_
  refine mb_l_cons ⟨mm_getf _ _ _, ml_getf _ _ _⟩ ?_
  refine mb_l_cons ⟨mm_if2 _ _ _, ml_if2 _ _ _⟩ ?_
  refine mb_l_cons ⟨mm_ild _ _, ml_ild _ _⟩ ?_
  refine mb_l_cons ⟨mm_ald _ _, ml_ald _ _⟩ ?_
  refine mb_l_cons ⟨mm_getf _ _ _, ml_getf _ _ _⟩ ?_
  refine mb_l_cons ⟨mm_if2 _ _ _, ml_if2 _ _ _⟩ ?_
  refine mb_l_cons ⟨mm_push _ _, ml_push _ _⟩ ?_
  refine mb_l_cons ⟨mm_go _, ml_go _⟩ ?_
  refine mb_l_cons ⟨mm_push _ _, ml_push _ _⟩ ?_
  refine mb_l_cons ⟨mm_zret, ml_zret⟩ ?_
  exact mb_l_nil
theorem mz_X2_init : ∀ pc i, mb_look mc_X2_init pc = some i → mb_Mon i ∧ mb_Le i := by
  unfold mc_X2_init
  refine mb_l_cons ⟨mm_ald _ _, ml_ald _ _⟩ ?_
  refine mb_l_cons ⟨mm_oinit _, ml_oinit _⟩ ?_
  refine mb_l_cons ⟨mm_ald _ _, ml_ald _ _⟩ ?_
  refine mb_l_cons ⟨mm_push _ _, ml_push _ _⟩ ?_
  refine mb_l_cons ⟨mm_newi _, ml_newi _⟩ ?_
  refine mb_l_cons ⟨mm_putf _ _ _ _, ml_putf _ _ _ _⟩ ?_
  refine mb_l_cons ⟨mm_ald _ _, ml_ald _ _⟩ ?_
  refine mb_l_cons ⟨mm_push _ _, ml_push _ _⟩ ?_
  refine mb_l_cons ⟨mm_newi _, ml_newi _⟩ ?_
  refine mb_l_cons ⟨mm_putf _ _ _ _, ml_putf _ _ _ _⟩ ?_
  refine mb_l_cons ⟨mm_ald _ _, ml_ald _ _⟩ ?_
  refine mb_l_cons ⟨mm_push _ _, ml_push _ _⟩ ?_
  refine mb_l_cons ⟨mm_newi _, ml_newi _⟩ ?_
  refine mb_l_cons ⟨mm_putf _ _ _ _, ml_putf _ _ _ _⟩ ?_
  refine mb_l_cons ⟨mm_vret, ml_vret⟩ ?_
  exact mb_l_nil
theorem mz_X2_keysAhead : ∀ pc i, mb_look mc_X2_keysAhead pc = some i → mb_Mon i ∧ mb_Le i := by
  unfold mc_X2_keysAhead
  refine mb_l_cons ⟨mm_push _ _, ml_push _ _⟩ ?_
  refine mb_l_cons ⟨mm_ist _ _, ml_ist _ _⟩ ?_
  refine mb_l_cons ⟨mm_ild _ _, ml_ild _ _⟩ ?_
  refine mb_l_cons ⟨mm_ald _ _, ml_ald _ _⟩ ?_
  refine mb_l_cons ⟨mm_getf _ _ _, ml_getf _ _ _⟩ ?_
  refine mb_l_cons ⟨mm_if2 _ _ _, ml_if2 _ _ _⟩ ?_
  refine mb_l_cons ⟨mm_ald _ _, ml_ald _ _⟩ ?_
  refine mb_l_cons ⟨mm_getf _ _ _, ml_getf _ _ _⟩ ?_
  refine mb_l_cons ⟨mm_ild _ _, ml_ild _ _⟩ ?_
  refine mb_l_cons ⟨mm_iald _, ml_iald _⟩ ?_
  refine mb_l_cons ⟨mm_ild _ _, ml_ild _ _⟩ ?_
  refine mb_l_cons ⟨mm_if2 _ _ _, ml_if2 _ _ _⟩ ?_
  refine mb_l_cons ⟨mm_iinc _ _ _, ml_iinc _ _ _⟩ ?_
  refine mb_l_cons ⟨mm_go _, ml_go _⟩ ?_
  refine mb_l_cons ⟨mm_ild _ _, ml_ild _ _⟩ ?_
  refine mb_l_cons ⟨mm_iret, ml_iret⟩ ?_
  exact mb_l_nil
theorem mz_X2_standsAt : ∀ pc i, mb_look mc_X2_standsAt pc = some i → mb_Mon i ∧ mb_Le i := by
  unfold mc_X2_standsAt
  refine mb_l_cons ⟨mm_ild _ _, ml_ild _ _⟩ ?_
  refine mb_l_cons ⟨mm_ald _ _, ml_ald _ _⟩ ?_
  refine mb_l_cons ⟨mm_getf _ _ _, ml_getf _ _ _⟩ ?_
  refine mb_l_cons ⟨mm_if2 _ _ _, ml_if2 _ _ _⟩ ?_
  refine mb_l_cons ⟨mm_ald _ _, ml_ald _ _⟩ ?_
  refine mb_l_cons ⟨mm_getf _ _ _, ml_getf _ _ _⟩ ?_
  refine mb_l_cons ⟨mm_ild _ _, ml_ild _ _⟩ ?_
  refine mb_l_cons ⟨mm_iald _, ml_iald _⟩ ?_
  refine mb_l_cons ⟨mm_ild _ _, ml_ild _ _⟩ ?_
  refine mb_l_cons ⟨mm_if2 _ _ _, ml_if2 _ _ _⟩ ?_
  refine mb_l_cons ⟨mm_push _ _, ml_push _ _⟩ ?_
  refine mb_l_cons ⟨mm_go _, ml_go _⟩ ?_
  refine mb_l_cons ⟨mm_push _ _, ml_push _ _⟩ ?_
  refine mb_l_cons ⟨mm_zret, ml_zret⟩ ?_
  exact mb_l_nil
theorem mz_X2_hasRoomFor : ∀ pc i, mb_look mc_X2_hasRoomFor pc = some i → mb_Mon i ∧ mb_Le i := by
  unfold mc_X2_hasRoomFor
  refine mb_l_cons ⟨mm_ald _ _, ml_ald _ _⟩ ?_
  refine mb_l_cons ⟨mm_getf _ _ _, ml_getf _ _ _⟩ ?_
  refine mb_l_cons ⟨mm_push _ _, ml_push _ _⟩ ?_
  refine mb_l_cons ⟨mm_if2 _ _ _, ml_if2 _ _ _⟩ ?_
  refine mb_l_cons ⟨mm_ald _ _, ml_ald _ _⟩ ?_
  refine mb_l_cons ⟨mm_ald _ _, ml_ald _ _⟩ ?_
  refine mb_l_cons ⟨mm_ild _ _, ml_ild _ _⟩ ?_
  refine mb_l_cons ⟨mm_callv _ _ _ _ _, ml_callv _ _ _ _ _⟩ ?_
  refine mb_l_cons ⟨mm_ild _ _, ml_ild _ _⟩ ?_
  refine mb_l_cons ⟨mm_callv _ _ _ _ _, ml_callv _ _ _ _ _⟩ ?_
  refine mb_l_cons ⟨mm_if1 _ _ _, ml_if1 _ _ _⟩ ?_
  refine mb_l_cons ⟨mm_push _ _, ml_push _ _⟩ ?_
  refine mb_l_cons ⟨mm_go _, ml_go _⟩ ?_
  refine mb_l_cons ⟨mm_push _ _, ml_push _ _⟩ ?_
  refine mb_l_cons ⟨mm_zret, ml_zret⟩ ?_
  exact mb_l_nil
theorem mz_X2_put : ∀ pc i, mb_look mc_X2_put pc = some i → mb_Mon i ∧ mb_Le i := by
  unfold mc_X2_put
  refine mb_l_cons ⟨mm_ald _ _, ml_ald _ _⟩ ?_
  refine mb_l_cons ⟨mm_ild _ _, ml_ild _ _⟩ ?_
  refine mb_l_cons ⟨mm_callv _ _ _ _ _, ml_callv _ _ _ _ _⟩ ?_
  refine mb_l_cons ⟨mm_if1 _ _ _, ml_if1 _ _ _⟩ ?_
  refine mb_l_cons ⟨mm_vret, ml_vret⟩ ?_
  refine mb_l_cons ⟨mm_ald _ _, ml_ald _ _⟩ ?_
  refine mb_l_cons ⟨mm_ild _ _, ml_ild _ _⟩ ?_
  refine mb_l_cons ⟨mm_callv _ _ _ _ _, ml_callv _ _ _ _ _⟩ ?_
  refine mb_l_cons ⟨mm_ist _ _, ml_ist _ _⟩ ?_
  refine mb_l_cons ⟨mm_ald _ _, ml_ald _ _⟩ ?_
  refine mb_l_cons ⟨mm_ild _ _, ml_ild _ _⟩ ?_
  refine mb_l_cons ⟨mm_ild _ _, ml_ild _ _⟩ ?_
  refine mb_l_cons ⟨mm_callv _ _ _ _ _, ml_callv _ _ _ _ _⟩ ?_
  refine mb_l_cons ⟨mm_if1 _ _ _, ml_if1 _ _ _⟩ ?_
  refine mb_l_cons ⟨mm_ald _ _, ml_ald _ _⟩ ?_
  refine mb_l_cons ⟨mm_getf _ _ _, ml_getf _ _ _⟩ ?_
  refine mb_l_cons ⟨mm_ist _ _, ml_ist _ _⟩ ?_
  refine mb_l_cons ⟨mm_ild _ _, ml_ild _ _⟩ ?_
  refine mb_l_cons ⟨mm_ild _ _, ml_ild _ _⟩ ?_
  refine mb_l_cons ⟨mm_if2 _ _ _, ml_if2 _ _ _⟩ ?_
  refine mb_l_cons ⟨mm_ald _ _, ml_ald _ _⟩ ?_
  refine mb_l_cons ⟨mm_ild _ _, ml_ild _ _⟩ ?_
  refine mb_l_cons ⟨mm_push _ _, ml_push _ _⟩ ?_
  refine mb_l_cons ⟨mm_isub _, ml_isub _⟩ ?_
  refine mb_l_cons ⟨mm_ild _ _, ml_ild _ _⟩ ?_
  refine mb_l_cons ⟨mm_callv _ _ _ _ _, ml_callv _ _ _ _ _⟩ ?_
  refine mb_l_cons ⟨mm_iinc _ _ _, ml_iinc _ _ _⟩ ?_
  refine mb_l_cons ⟨mm_go _, ml_go _⟩ ?_
  refine mb_l_cons ⟨mm_ald _ _, ml_ald _ _⟩ ?_
  refine mb_l_cons ⟨mm_dup _, ml_dup _⟩ ?_
  refine mb_l_cons ⟨mm_getf _ _ _, ml_getf _ _ _⟩ ?_
  refine mb_l_cons ⟨mm_push _ _, ml_push _ _⟩ ?_
  refine mb_l_cons ⟨mm_iadd _, ml_iadd _⟩ ?_
  refine mb_l_cons ⟨mm_putf _ _ _ _, ml_putf _ _ _ _⟩ ?_
  refine mb_l_cons ⟨mm_ald _ _, ml_ald _ _⟩ ?_
  refine mb_l_cons ⟨mm_getf _ _ _, ml_getf _ _ _⟩ ?_
  refine mb_l_cons ⟨mm_ild _ _, ml_ild _ _⟩ ?_
  refine mb_l_cons ⟨mm_ild _ _, ml_ild _ _⟩ ?_
  refine mb_l_cons ⟨mm_iast _, ml_iast _⟩ ?_
  refine mb_l_cons ⟨mm_ald _ _, ml_ald _ _⟩ ?_
  refine mb_l_cons ⟨mm_getf _ _ _, ml_getf _ _ _⟩ ?_
  refine mb_l_cons ⟨mm_ild _ _, ml_ild _ _⟩ ?_
  refine mb_l_cons ⟨mm_ild _ _, ml_ild _ _⟩ ?_
  refine mb_l_cons ⟨mm_iast _, ml_iast _⟩ ?_
  refine mb_l_cons ⟨mm_ald _ _, ml_ald _ _⟩ ?_
  refine mb_l_cons ⟨mm_getf _ _ _, ml_getf _ _ _⟩ ?_
  refine mb_l_cons ⟨mm_ild _ _, ml_ild _ _⟩ ?_
  refine mb_l_cons ⟨mm_ild _ _, ml_ild _ _⟩ ?_
  refine mb_l_cons ⟨mm_iast _, ml_iast _⟩ ?_
  refine mb_l_cons ⟨mm_vret, ml_vret⟩ ?_
  exact mb_l_nil
theorem mz_X2_take : ∀ pc i, mb_look mc_X2_take pc = some i → mb_Mon i ∧ mb_Le i := by
  unfold mc_X2_take
  refine mb_l_cons ⟨mm_ald _ _, ml_ald _ _⟩ ?_
  refine mb_l_cons ⟨mm_ild _ _, ml_ild _ _⟩ ?_
  refine mb_l_cons ⟨mm_callv _ _ _ _ _, ml_callv _ _ _ _ _⟩ ?_
  refine mb_l_cons ⟨mm_ist _ _, ml_ist _ _⟩ ?_
  refine mb_l_cons ⟨mm_ald _ _, ml_ald _ _⟩ ?_
  refine mb_l_cons ⟨mm_ild _ _, ml_ild _ _⟩ ?_
  refine mb_l_cons ⟨mm_ild _ _, ml_ild _ _⟩ ?_
  refine mb_l_cons ⟨mm_callv _ _ _ _ _, ml_callv _ _ _ _ _⟩ ?_
  refine mb_l_cons ⟨mm_if1 _ _ _, ml_if1 _ _ _⟩ ?_
  refine mb_l_cons ⟨mm_push _ _, ml_push _ _⟩ ?_
  refine mb_l_cons ⟨mm_zret, ml_zret⟩ ?_
  refine mb_l_cons ⟨mm_ald _ _, ml_ald _ _⟩ ?_
  refine mb_l_cons ⟨mm_dup _, ml_dup _⟩ ?_
  refine mb_l_cons ⟨mm_getf _ _ _, ml_getf _ _ _⟩ ?_
  refine mb_l_cons ⟨mm_push _ _, ml_push _ _⟩ ?_
  refine mb_l_cons ⟨mm_isub _, ml_isub _⟩ ?_
  refine mb_l_cons ⟨mm_putf _ _ _ _, ml_putf _ _ _ _⟩ ?_
  refine mb_l_cons ⟨mm_ild _ _, ml_ild _ _⟩ ?_
  refine mb_l_cons ⟨mm_ist _ _, ml_ist _ _⟩ ?_
  refine mb_l_cons ⟨mm_ild _ _, ml_ild _ _⟩ ?_
  refine mb_l_cons ⟨mm_ald _ _, ml_ald _ _⟩ ?_
  refine mb_l_cons ⟨mm_getf _ _ _, ml_getf _ _ _⟩ ?_
  refine mb_l_cons ⟨mm_if2 _ _ _, ml_if2 _ _ _⟩ ?_
  refine mb_l_cons ⟨mm_ald _ _, ml_ald _ _⟩ ?_
  refine mb_l_cons ⟨mm_ild _ _, ml_ild _ _⟩ ?_
  refine mb_l_cons ⟨mm_push _ _, ml_push _ _⟩ ?_
  refine mb_l_cons ⟨mm_iadd _, ml_iadd _⟩ ?_
  refine mb_l_cons ⟨mm_ild _ _, ml_ild _ _⟩ ?_
  refine mb_l_cons ⟨mm_callv _ _ _ _ _, ml_callv _ _ _ _ _⟩ ?_
  refine mb_l_cons ⟨mm_iinc _ _ _, ml_iinc _ _ _⟩ ?_
  refine mb_l_cons ⟨mm_go _, ml_go _⟩ ?_
  refine mb_l_cons ⟨mm_push _ _, ml_push _ _⟩ ?_
  refine mb_l_cons ⟨mm_zret, ml_zret⟩ ?_
  exact mb_l_nil
theorem mz_X2_moveKey : ∀ pc i, mb_look mc_X2_moveKey pc = some i → mb_Mon i ∧ mb_Le i := by
  unfold mc_X2_moveKey
  refine mb_l_cons ⟨mm_ald _ _, ml_ald _ _⟩ ?_
  refine mb_l_cons ⟨mm_getf _ _ _, ml_getf _ _ _⟩ ?_
  refine mb_l_cons ⟨mm_ild _ _, ml_ild _ _⟩ ?_
  refine mb_l_cons ⟨mm_ald _ _, ml_ald _ _⟩ ?_
  refine mb_l_cons ⟨mm_getf _ _ _, ml_getf _ _ _⟩ ?_
  refine mb_l_cons ⟨mm_ild _ _, ml_ild _ _⟩ ?_
  refine mb_l_cons ⟨mm_iald _, ml_iald _⟩ ?_
  refine mb_l_cons ⟨mm_iast _, ml_iast _⟩ ?_
  refine mb_l_cons ⟨mm_ald _ _, ml_ald _ _⟩ ?_
  refine mb_l_cons ⟨mm_getf _ _ _, ml_getf _ _ _⟩ ?_
  refine mb_l_cons ⟨mm_ild _ _, ml_ild _ _⟩ ?_
  refine mb_l_cons ⟨mm_ald _ _, ml_ald _ _⟩ ?_
  refine mb_l_cons ⟨mm_getf _ _ _, ml_getf _ _ _⟩ ?_
  refine mb_l_cons ⟨mm_ild _ _, ml_ild _ _⟩ ?_
  refine mb_l_cons ⟨mm_iald _, ml_iald _⟩ ?_
  refine mb_l_cons ⟨mm_iast _, ml_iast _⟩ ?_
  refine mb_l_cons ⟨mm_ald _ _, ml_ald _ _⟩ ?_
  refine mb_l_cons ⟨mm_getf _ _ _, ml_getf _ _ _⟩ ?_
  refine mb_l_cons ⟨mm_ild _ _, ml_ild _ _⟩ ?_
  refine mb_l_cons ⟨mm_ald _ _, ml_ald _ _⟩ ?_
  refine mb_l_cons ⟨mm_getf _ _ _, ml_getf _ _ _⟩ ?_
  refine mb_l_cons ⟨mm_ild _ _, ml_ild _ _⟩ ?_
  refine mb_l_cons ⟨mm_iald _, ml_iald _⟩ ?_
  refine mb_l_cons ⟨mm_iast _, ml_iast _⟩ ?_
  refine mb_l_cons ⟨mm_vret, ml_vret⟩ ?_
  exact mb_l_nil
theorem mz_X2_valueAt : ∀ pc i, mb_look mc_X2_valueAt pc = some i → mb_Mon i ∧ mb_Le i := by
  unfold mc_X2_valueAt
  refine mb_l_cons ⟨mm_ald _ _, ml_ald _ _⟩ ?_
  refine mb_l_cons ⟨mm_getf _ _ _, ml_getf _ _ _⟩ ?_
  refine mb_l_cons ⟨mm_if1 _ _ _, ml_if1 _ _ _⟩ ?_
  refine mb_l_cons ⟨mm_push _ _, ml_push _ _⟩ ?_
  refine mb_l_cons ⟨mm_iret, ml_iret⟩ ?_
  refine mb_l_cons ⟨mm_ald _ _, ml_ald _ _⟩ ?_
  refine mb_l_cons ⟨mm_ild _ _, ml_ild _ _⟩ ?_
  refine mb_l_cons ⟨mm_push _ _, ml_push _ _⟩ ?_
  refine mb_l_cons ⟨mm_iadd _, ml_iadd _⟩ ?_
  refine mb_l_cons ⟨mm_callv _ _ _ _ _, ml_callv _ _ _ _ _⟩ ?_
  refine mb_l_cons ⟨mm_ist _ _, ml_ist _ _⟩ ?_
  refine mb_l_cons ⟨mm_ild _ _, ml_ild _ _⟩ ?_
  refine mb_l_cons ⟨mm_if1 _ _ _, ml_if1 _ _ _⟩ ?_
  refine mb_l_cons ⟨mm_ald _ _, ml_ald _ _⟩ ?_
  refine mb_l_cons ⟨mm_getf _ _ _, ml_getf _ _ _⟩ ?_
  refine mb_l_cons ⟨mm_push _ _, ml_push _ _⟩ ?_
  refine mb_l_cons ⟨mm_iald _, ml_iald _⟩ ?_
  refine mb_l_cons ⟨mm_iret, ml_iret⟩ ?_
  refine mb_l_cons ⟨mm_ild _ _, ml_ild _ _⟩ ?_
  refine mb_l_cons ⟨mm_ald _ _, ml_ald _ _⟩ ?_
  refine mb_l_cons ⟨mm_getf _ _ _, ml_getf _ _ _⟩ ?_
  refine mb_l_cons ⟨mm_if2 _ _ _, ml_if2 _ _ _⟩ ?_
  refine mb_l_cons ⟨mm_ald _ _, ml_ald _ _⟩ ?_
  refine mb_l_cons ⟨mm_getf _ _ _, ml_getf _ _ _⟩ ?_
  refine mb_l_cons ⟨mm_ald _ _, ml_ald _ _⟩ ?_
  refine mb_l_cons ⟨mm_getf _ _ _, ml_getf _ _ _⟩ ?_
  refine mb_l_cons ⟨mm_push _ _, ml_push _ _⟩ ?_
  refine mb_l_cons ⟨mm_isub _, ml_isub _⟩ ?_
  refine mb_l_cons ⟨mm_iald _, ml_iald _⟩ ?_
  refine mb_l_cons ⟨mm_iret, ml_iret⟩ ?_
  refine mb_l_cons ⟨mm_ald _ _, ml_ald _ _⟩ ?_
  refine mb_l_cons ⟨mm_ild _ _, ml_ild _ _⟩ ?_
  refine mb_l_cons ⟨mm_ild _ _, ml_ild _ _⟩ ?_
  refine mb_l_cons ⟨mm_callv _ _ _ _ _, ml_callv _ _ _ _ _⟩ ?_
  refine mb_l_cons ⟨mm_iret, ml_iret⟩ ?_
  exact mb_l_nil
theorem mz_X2_valueAhead : ∀ pc i, mb_look mc_X2_valueAhead pc = some i → mb_Mon i ∧ mb_Le i := by
  unfold mc_X2_valueAhead
  refine mb_l_cons ⟨mm_ild _ _, ml_ild _ _⟩ ?_
  refine mb_l_cons ⟨mm_push _ _, ml_push _ _⟩ ?_
  refine mb_l_cons ⟨mm_isub _, ml_isub _⟩ ?_
  refine mb_l_cons ⟨mm_ist _ _, ml_ist _ _⟩ ?_
  refine mb_l_cons ⟨mm_ald _ _, ml_ald _ _⟩ ?_
  refine mb_l_cons ⟨mm_getf _ _ _, ml_getf _ _ _⟩ ?_
  refine mb_l_cons ⟨mm_ild _ _, ml_ild _ _⟩ ?_
  refine mb_l_cons ⟨mm_iald _, ml_iald _⟩ ?_
  refine mb_l_cons ⟨mm_ist _ _, ml_ist _ _⟩ ?_
  refine mb_l_cons ⟨mm_ald _ _, ml_ald _ _⟩ ?_
  refine mb_l_cons ⟨mm_getf _ _ _, ml_getf _ _ _⟩ ?_
  refine mb_l_cons ⟨mm_ild _ _, ml_ild _ _⟩ ?_
  refine mb_l_cons ⟨mm_iald _, ml_iald _⟩ ?_
  refine mb_l_cons ⟨mm_ald _ _, ml_ald _ _⟩ ?_
  refine mb_l_cons ⟨mm_getf _ _ _, ml_getf _ _ _⟩ ?_
  refine mb_l_cons ⟨mm_ild _ _, ml_ild _ _⟩ ?_
  refine mb_l_cons ⟨mm_iald _, ml_iald _⟩ ?_
  refine mb_l_cons ⟨mm_isub _, ml_isub _⟩ ?_
  refine mb_l_cons ⟨mm_ist _ _, ml_ist _ _⟩ ?_
  refine mb_l_cons ⟨mm_ald _ _, ml_ald _ _⟩ ?_
  refine mb_l_cons ⟨mm_getf _ _ _, ml_getf _ _ _⟩ ?_
  refine mb_l_cons ⟨mm_ild _ _, ml_ild _ _⟩ ?_
  refine mb_l_cons ⟨mm_iald _, ml_iald _⟩ ?_
  refine mb_l_cons ⟨mm_if1 _ _ _, ml_if1 _ _ _⟩ ?_
  refine mb_l_cons ⟨mm_ild _ _, ml_ild _ _⟩ ?_
  refine mb_l_cons ⟨mm_if1 _ _ _, ml_if1 _ _ _⟩ ?_
  refine mb_l_cons ⟨mm_ild _ _, ml_ild _ _⟩ ?_
  refine mb_l_cons ⟨mm_iret, ml_iret⟩ ?_
  refine mb_l_cons ⟨mm_ald _ _, ml_ald _ _⟩ ?_
  refine mb_l_cons ⟨mm_getf _ _ _, ml_getf _ _ _⟩ ?_
  refine mb_l_cons ⟨mm_ild _ _, ml_ild _ _⟩ ?_
  refine mb_l_cons ⟨mm_iald _, ml_iald _⟩ ?_
  refine mb_l_cons ⟨mm_ild _ _, ml_ild _ _⟩ ?_
  refine mb_l_cons ⟨mm_isub _, ml_isub _⟩ ?_
  refine mb_l_cons ⟨mm_ist _ _, ml_ist _ _⟩ ?_
  refine mb_l_cons ⟨mm_ild _ _, ml_ild _ _⟩ ?_
  refine mb_l_cons ⟨mm_ald _ _, ml_ald _ _⟩ ?_
  refine mb_l_cons ⟨mm_getf _ _ _, ml_getf _ _ _⟩ ?_
  refine mb_l_cons ⟨mm_ild _ _, ml_ild _ _⟩ ?_
  refine mb_l_cons ⟨mm_iald _, ml_iald _⟩ ?_
  refine mb_l_cons ⟨mm_isub _, ml_isub _⟩ ?_
  refine mb_l_cons ⟨mm_ist _ _, ml_ist _ _⟩ ?_
  refine mb_l_cons ⟨mm_ald _ _, ml_ald _ _⟩ ?_
  refine mb_l_cons ⟨mm_getf _ _ _, ml_getf _ _ _⟩ ?_
  refine mb_l_cons ⟨mm_ild _ _, ml_ild _ _⟩ ?_
  refine mb_l_cons ⟨mm_iald _, ml_iald _⟩ ?_
  refine mb_l_cons ⟨mm_push _ _, ml_push _ _⟩ ?_
  refine mb_l_cons ⟨mm_if2 _ _ _, ml_if2 _ _ _⟩ ?_
  refine mb_l_cons ⟨mm_ild _ _, ml_ild _ _⟩ ?_
  refine mb_l_cons ⟨mm_ild _ _, ml_ild _ _⟩ ?_
  refine mb_l_cons ⟨mm_ild _ _, ml_ild _ _⟩ ?_
  refine mb_l_cons ⟨mm_imul _, ml_imul _⟩ ?_
  refine mb_l_cons ⟨mm_ild _ _, ml_ild _ _⟩ ?_
  refine mb_l_cons ⟨mm_calls _ _ _, ml_calls _ _ _⟩ ?_
  refine mb_l_cons ⟨mm_iadd _, ml_iadd _⟩ ?_
  refine mb_l_cons ⟨mm_iret, ml_iret⟩ ?_
  refine mb_l_cons ⟨mm_ild _ _, ml_ild _ _⟩ ?_
  refine mb_l_cons ⟨mm_ild _ _, ml_ild _ _⟩ ?_
  refine mb_l_cons ⟨mm_ild _ _, ml_ild _ _⟩ ?_
  refine mb_l_cons ⟨mm_imul _, ml_imul _⟩ ?_
  refine mb_l_cons ⟨mm_ild _ _, ml_ild _ _⟩ ?_
  refine mb_l_cons ⟨mm_imul _, ml_imul _⟩ ?_
  refine mb_l_cons ⟨mm_ild _ _, ml_ild _ _⟩ ?_
  refine mb_l_cons ⟨mm_ild _ _, ml_ild _ _⟩ ?_
  refine mb_l_cons ⟨mm_imul _, ml_imul _⟩ ?_
  refine mb_l_cons ⟨mm_calls _ _ _, ml_calls _ _ _⟩ ?_
  refine mb_l_cons ⟨mm_iadd _, ml_iadd _⟩ ?_
  refine mb_l_cons ⟨mm_iret, ml_iret⟩ ?_
  exact mb_l_nil
theorem mz_X2_copy : ∀ pc i, mb_look mc_X2_copy pc = some i → mb_Mon i ∧ mb_Le i := by
  unfold mc_X2_copy
  refine mb_l_cons ⟨mm_new _ _ _, ml_new _ _ _⟩ ?_
  refine mb_l_cons ⟨mm_dup _, ml_dup _⟩ ?_
  refine mb_l_cons ⟨mm_calli _ _ _, ml_calli _ _ _⟩ ?_
  refine mb_l_cons ⟨mm_ast _ _, ml_ast _ _⟩ ?_
  refine mb_l_cons ⟨mm_push _ _, ml_push _ _⟩ ?_
  refine mb_l_cons ⟨mm_ist _ _, ml_ist _ _⟩ ?_
  refine mb_l_cons ⟨mm_ild _ _, ml_ild _ _⟩ ?_
  refine mb_l_cons ⟨mm_ald _ _, ml_ald _ _⟩ ?_
  refine mb_l_cons ⟨mm_getf _ _ _, ml_getf _ _ _⟩ ?_
  refine mb_l_cons ⟨mm_if2 _ _ _, ml_if2 _ _ _⟩ ?_
  refine mb_l_cons ⟨mm_ald _ _, ml_ald _ _⟩ ?_
  refine mb_l_cons ⟨mm_getf _ _ _, ml_getf _ _ _⟩ ?_
  refine mb_l_cons ⟨mm_ild _ _, ml_ild _ _⟩ ?_
  refine mb_l_cons ⟨mm_ald _ _, ml_ald _ _⟩ ?_
  refine mb_l_cons ⟨mm_getf _ _ _, ml_getf _ _ _⟩ ?_
  refine mb_l_cons ⟨mm_ild _ _, ml_ild _ _⟩ ?_
  refine mb_l_cons ⟨mm_iald _, ml_iald _⟩ ?_
  refine mb_l_cons ⟨mm_iast _, ml_iast _⟩ ?_
  refine mb_l_cons ⟨mm_ald _ _, ml_ald _ _⟩ ?_
  refine mb_l_cons ⟨mm_getf _ _ _, ml_getf _ _ _⟩ ?_
  refine mb_l_cons ⟨mm_ild _ _, ml_ild _ _⟩ ?_
  refine mb_l_cons ⟨mm_ald _ _, ml_ald _ _⟩ ?_
  refine mb_l_cons ⟨mm_getf _ _ _, ml_getf _ _ _⟩ ?_
  refine mb_l_cons ⟨mm_ild _ _, ml_ild _ _⟩ ?_
  refine mb_l_cons ⟨mm_iald _, ml_iald _⟩ ?_
  refine mb_l_cons ⟨mm_iast _, ml_iast _⟩ ?_
  refine mb_l_cons ⟨mm_ald _ _, ml_ald _ _⟩ ?_
  refine mb_l_cons ⟨mm_getf _ _ _, ml_getf _ _ _⟩ ?_
  refine mb_l_cons ⟨mm_ild _ _, ml_ild _ _⟩ ?_
  refine mb_l_cons ⟨mm_ald _ _, ml_ald _ _⟩ ?_
  refine mb_l_cons ⟨mm_getf _ _ _, ml_getf _ _ _⟩ ?_
  refine mb_l_cons ⟨mm_ild _ _, ml_ild _ _⟩ ?_
  refine mb_l_cons ⟨mm_iald _, ml_iald _⟩ ?_
  refine mb_l_cons ⟨mm_iast _, ml_iast _⟩ ?_
  refine mb_l_cons ⟨mm_iinc _ _ _, ml_iinc _ _ _⟩ ?_
  refine mb_l_cons ⟨mm_go _, ml_go _⟩ ?_
  refine mb_l_cons ⟨mm_ald _ _, ml_ald _ _⟩ ?_
  refine mb_l_cons ⟨mm_ald _ _, ml_ald _ _⟩ ?_
  refine mb_l_cons ⟨mm_getf _ _ _, ml_getf _ _ _⟩ ?_
  refine mb_l_cons ⟨mm_putf _ _ _ _, ml_putf _ _ _ _⟩ ?_
  refine mb_l_cons ⟨mm_ald _ _, ml_ald _ _⟩ ?_
  refine mb_l_cons ⟨mm_aret, ml_aret⟩ ?_
  exact mb_l_nil
theorem mz_X3_init : ∀ pc i, mb_look mc_X3_init pc = some i → mb_Mon i ∧ mb_Le i := by
  unfold mc_X3_init
  refine mb_l_cons ⟨mm_ald _ _, ml_ald _ _⟩ ?_
  refine mb_l_cons ⟨mm_oinit _, ml_oinit _⟩ ?_
  refine mb_l_cons ⟨mm_ald _ _, ml_ald _ _⟩ ?_
  refine mb_l_cons ⟨mm_push _ _, ml_push _ _⟩ ?_
  refine mb_l_cons ⟨mm_newi _, ml_newi _⟩ ?_
  refine mb_l_cons ⟨mm_putf _ _ _ _, ml_putf _ _ _ _⟩ ?_
  refine mb_l_cons ⟨mm_ald _ _, ml_ald _ _⟩ ?_
  refine mb_l_cons ⟨mm_ild _ _, ml_ild _ _⟩ ?_
  refine mb_l_cons ⟨mm_putf _ _ _ _, ml_putf _ _ _ _⟩ ?_
  refine mb_l_cons ⟨mm_push _ _, ml_push _ _⟩ ?_
  refine mb_l_cons ⟨mm_ist _ _, ml_ist _ _⟩ ?_
  refine mb_l_cons ⟨mm_ild _ _, ml_ild _ _⟩ ?_
  refine mb_l_cons ⟨mm_push _ _, ml_push _ _⟩ ?_
  refine mb_l_cons ⟨mm_if2 _ _ _, ml_if2 _ _ _⟩ ?_
  refine mb_l_cons ⟨mm_ald _ _, ml_ald _ _⟩ ?_
  refine mb_l_cons ⟨mm_getf _ _ _, ml_getf _ _ _⟩ ?_
  refine mb_l_cons ⟨mm_ild _ _, ml_ild _ _⟩ ?_
  refine mb_l_cons ⟨mm_push _ _, ml_push _ _⟩ ?_
  refine mb_l_cons ⟨mm_iast _, ml_iast _⟩ ?_
  refine mb_l_cons ⟨mm_iinc _ _ _, ml_iinc _ _ _⟩ ?_
  refine mb_l_cons ⟨mm_go _, ml_go _⟩ ?_
  refine mb_l_cons ⟨mm_vret, ml_vret⟩ ?_
  exact mb_l_nil
theorem mz_X3_versionOf : ∀ pc i, mb_look mc_X3_versionOf pc = some i → mb_Mon i ∧ mb_Le i := by
  unfold mc_X3_versionOf
  refine mb_l_cons ⟨mm_ild _ _, ml_ild _ _⟩ ?_
  refine mb_l_cons ⟨mm_if1 _ _ _, ml_if1 _ _ _⟩ ?_
  refine mb_l_cons ⟨mm_ild _ _, ml_ild _ _⟩ ?_
  refine mb_l_cons ⟨mm_push _ _, ml_push _ _⟩ ?_
  refine mb_l_cons ⟨mm_if2 _ _ _, ml_if2 _ _ _⟩ ?_
  refine mb_l_cons ⟨mm_push _ _, ml_push _ _⟩ ?_
  refine mb_l_cons ⟨mm_go _, ml_go _⟩ ?_
  refine mb_l_cons ⟨mm_ald _ _, ml_ald _ _⟩ ?_
  refine mb_l_cons ⟨mm_getf _ _ _, ml_getf _ _ _⟩ ?_
  refine mb_l_cons ⟨mm_ild _ _, ml_ild _ _⟩ ?_
  refine mb_l_cons ⟨mm_iald _, ml_iald _⟩ ?_
  refine mb_l_cons ⟨mm_iret, ml_iret⟩ ?_
  exact mb_l_nil
theorem mz_X3_keepVersion : ∀ pc i, mb_look mc_X3_keepVersion pc = some i → mb_Mon i ∧ mb_Le i := by
  unfold mc_X3_keepVersion
  refine mb_l_cons ⟨mm_ild _ _, ml_ild _ _⟩ ?_
  refine mb_l_cons ⟨mm_if1 _ _ _, ml_if1 _ _ _⟩ ?_
  refine mb_l_cons ⟨mm_ild _ _, ml_ild _ _⟩ ?_
  refine mb_l_cons ⟨mm_push _ _, ml_push _ _⟩ ?_
  refine mb_l_cons ⟨mm_if2 _ _ _, ml_if2 _ _ _⟩ ?_
  refine mb_l_cons ⟨mm_ald _ _, ml_ald _ _⟩ ?_
  refine mb_l_cons ⟨mm_getf _ _ _, ml_getf _ _ _⟩ ?_
  refine mb_l_cons ⟨mm_ild _ _, ml_ild _ _⟩ ?_
  refine mb_l_cons ⟨mm_ild _ _, ml_ild _ _⟩ ?_
  refine mb_l_cons ⟨mm_iast _, ml_iast _⟩ ?_
  refine mb_l_cons ⟨mm_vret, ml_vret⟩ ?_
  exact mb_l_nil
theorem mz_X4_init : ∀ pc i, mb_look mc_X4_init pc = some i → mb_Mon i ∧ mb_Le i := by
  unfold mc_X4_init
  refine mb_l_cons ⟨mm_ald _ _, ml_ald _ _⟩ ?_
  refine mb_l_cons ⟨mm_oinit _, ml_oinit _⟩ ?_
  refine mb_l_cons ⟨mm_ald _ _, ml_ald _ _⟩ ?_
  refine mb_l_cons ⟨mm_ild _ _, ml_ild _ _⟩ ?_
  refine mb_l_cons ⟨mm_putf _ _ _ _, ml_putf _ _ _ _⟩ ?_
  refine mb_l_cons ⟨mm_ald _ _, ml_ald _ _⟩ ?_
  refine mb_l_cons ⟨mm_ild _ _, ml_ild _ _⟩ ?_
  refine mb_l_cons ⟨mm_putf _ _ _ _, ml_putf _ _ _ _⟩ ?_
  refine mb_l_cons ⟨mm_vret, ml_vret⟩ ?_
  exact mb_l_nil
theorem mz_X4_followCut : ∀ pc i, mb_look mc_X4_followCut pc = some i → mb_Mon i ∧ mb_Le i := by
  unfold mc_X4_followCut
  refine mb_l_cons ⟨mm_ald _ _, ml_ald _ _⟩ ?_
  refine mb_l_cons ⟨mm_getf _ _ _, ml_getf _ _ _⟩ ?_
  refine mb_l_cons ⟨mm_ild _ _, ml_ild _ _⟩ ?_
  refine mb_l_cons ⟨mm_ild _ _, ml_ild _ _⟩ ?_
  refine mb_l_cons ⟨mm_iadd _, ml_iadd _⟩ ?_
  refine mb_l_cons ⟨mm_if2 _ _ _, ml_if2 _ _ _⟩ ?_
  refine mb_l_cons ⟨mm_ald _ _, ml_ald _ _⟩ ?_
  refine mb_l_cons ⟨mm_dup _, ml_dup _⟩ ?_
  refine mb_l_cons ⟨mm_getf _ _ _, ml_getf _ _ _⟩ ?_
  refine mb_l_cons ⟨mm_ild _ _, ml_ild _ _⟩ ?_
  refine mb_l_cons ⟨mm_isub _, ml_isub _⟩ ?_
  refine mb_l_cons ⟨mm_putf _ _ _ _, ml_putf _ _ _ _⟩ ?_
  refine mb_l_cons ⟨mm_go _, ml_go _⟩ ?_
  refine mb_l_cons ⟨mm_ald _ _, ml_ald _ _⟩ ?_
  refine mb_l_cons ⟨mm_getf _ _ _, ml_getf _ _ _⟩ ?_
  refine mb_l_cons ⟨mm_ild _ _, ml_ild _ _⟩ ?_
  refine mb_l_cons ⟨mm_if2 _ _ _, ml_if2 _ _ _⟩ ?_
  refine mb_l_cons ⟨mm_ald _ _, ml_ald _ _⟩ ?_
  refine mb_l_cons ⟨mm_ild _ _, ml_ild _ _⟩ ?_
  refine mb_l_cons ⟨mm_ild _ _, ml_ild _ _⟩ ?_
  refine mb_l_cons ⟨mm_if2 _ _ _, ml_if2 _ _ _⟩ ?_
  refine mb_l_cons ⟨mm_ild _ _, ml_ild _ _⟩ ?_
  refine mb_l_cons ⟨mm_go _, ml_go _⟩ ?_
  refine mb_l_cons ⟨mm_ild _ _, ml_ild _ _⟩ ?_
  refine mb_l_cons ⟨mm_push _ _, ml_push _ _⟩ ?_
  refine mb_l_cons ⟨mm_isub _, ml_isub _⟩ ?_
  refine mb_l_cons ⟨mm_putf _ _ _ _, ml_putf _ _ _ _⟩ ?_
  refine mb_l_cons ⟨mm_ald _ _, ml_ald _ _⟩ ?_
  refine mb_l_cons ⟨mm_dup _, ml_dup _⟩ ?_
  refine mb_l_cons ⟨mm_getf _ _ _, ml_getf _ _ _⟩ ?_
  refine mb_l_cons ⟨mm_push _ _, ml_push _ _⟩ ?_
  refine mb_l_cons ⟨mm_iadd _, ml_iadd _⟩ ?_
  refine mb_l_cons ⟨mm_putf _ _ _ _, ml_putf _ _ _ _⟩ ?_
  refine mb_l_cons ⟨mm_vret, ml_vret⟩ ?_
  exact mb_l_nil
theorem mz_X5_init : ∀ pc i, mb_look mc_X5_init pc = some i → mb_Mon i ∧ mb_Le i := by
  unfold mc_X5_init
  refine mb_l_cons ⟨mm_ald _ _, ml_ald _ _⟩ ?_
  refine mb_l_cons ⟨mm_oinit _, ml_oinit _⟩ ?_
  refine mb_l_cons ⟨mm_ald _ _, ml_ald _ _⟩ ?_
  refine mb_l_cons ⟨mm_push _ _, ml_push _ _⟩ ?_
  refine mb_l_cons ⟨mm_newi _, ml_newi _⟩ ?_
  refine mb_l_cons ⟨mm_putf _ _ _ _, ml_putf _ _ _ _⟩ ?_
  refine mb_l_cons ⟨mm_ald _ _, ml_ald _ _⟩ ?_
  refine mb_l_cons ⟨mm_push _ _, ml_push _ _⟩ ?_
  refine mb_l_cons ⟨mm_newq _ _, ml_newq _ _⟩ ?_
  refine mb_l_cons ⟨mm_putf _ _ _ _, ml_putf _ _ _ _⟩ ?_
  refine mb_l_cons ⟨mm_vret, ml_vret⟩ ?_
  exact mb_l_nil
theorem mz_X5_hasBone : ∀ pc i, mb_look mc_X5_hasBone pc = some i → mb_Mon i ∧ mb_Le i := by
  unfold mc_X5_hasBone
  refine mb_l_cons ⟨mm_ild _ _, ml_ild _ _⟩ ?_
  refine mb_l_cons ⟨mm_if1 _ _ _, ml_if1 _ _ _⟩ ?_
  refine mb_l_cons ⟨mm_ild _ _, ml_ild _ _⟩ ?_
  refine mb_l_cons ⟨mm_ald _ _, ml_ald _ _⟩ ?_
  refine mb_l_cons ⟨mm_getf _ _ _, ml_getf _ _ _⟩ ?_
  refine mb_l_cons ⟨mm_if2 _ _ _, ml_if2 _ _ _⟩ ?_
  refine mb_l_cons ⟨mm_push _ _, ml_push _ _⟩ ?_
  refine mb_l_cons ⟨mm_go _, ml_go _⟩ ?_
  refine mb_l_cons ⟨mm_push _ _, ml_push _ _⟩ ?_
  refine mb_l_cons ⟨mm_zret, ml_zret⟩ ?_
  exact mb_l_nil
theorem mz_X5_curveOf : ∀ pc i, mb_look mc_X5_curveOf pc = some i → mb_Mon i ∧ mb_Le i := by
  unfold mc_X5_curveOf
  refine mb_l_cons ⟨mm_ald _ _, ml_ald _ _⟩ ?_
  refine mb_l_cons ⟨mm_ild _ _, ml_ild _ _⟩ ?_
  refine mb_l_cons ⟨mm_callv _ _ _ _ _, ml_callv _ _ _ _ _⟩ ?_
  refine mb_l_cons ⟨mm_if1 _ _ _, ml_if1 _ _ _⟩ ?_
  refine mb_l_cons ⟨mm_ald _ _, ml_ald _ _⟩ ?_
  refine mb_l_cons ⟨mm_getf _ _ _, ml_getf _ _ _⟩ ?_
  refine mb_l_cons ⟨mm_ild _ _, ml_ild _ _⟩ ?_
  refine mb_l_cons ⟨mm_aald _, ml_aald _⟩ ?_
  refine mb_l_cons ⟨mm_go _, ml_go _⟩ ?_
  refine mb_l_cons ⟨mm_push _ _, ml_push _ _⟩ ?_
  refine mb_l_cons ⟨mm_aret, ml_aret⟩ ?_
  exact mb_l_nil
theorem mz_X5_addBone : ∀ pc i, mb_look mc_X5_addBone pc = some i → mb_Mon i ∧ mb_Le i := by
  unfold mc_X5_addBone
  refine mb_l_cons ⟨mm_ald _ _, ml_ald _ _⟩ ?_
  refine mb_l_cons ⟨mm_ild _ _, ml_ild _ _⟩ ?_
  refine mb_l_cons ⟨mm_new _ _ _, ml_new _ _ _⟩ ?_
  refine mb_l_cons ⟨mm_dup _, ml_dup _⟩ ?_
  refine mb_l_cons ⟨mm_calli _ _ _, ml_calli _ _ _⟩ ?_
  refine mb_l_cons ⟨mm_callv _ _ _ _ _, ml_callv _ _ _ _ _⟩ ?_
  refine mb_l_cons ⟨mm_iret, ml_iret⟩ ?_
  exact mb_l_nil
theorem mz_X5_append : ∀ pc i, mb_look mc_X5_append pc = some i → mb_Mon i ∧ mb_Le i := by
  unfold mc_X5_append
  refine mb_l_cons ⟨mm_ald _ _, ml_ald _ _⟩ ?_
  refine mb_l_cons ⟨mm_getf _ _ _, ml_getf _ _ _⟩ ?_
  refine mb_l_cons ⟨mm_push _ _, ml_push _ _⟩ ?_
  refine mb_l_cons ⟨mm_if2 _ _ _, ml_if2 _ _ _⟩ ?_
  refine mb_l_cons ⟨mm_push _ _, ml_push _ _⟩ ?_
  refine mb_l_cons ⟨mm_iret, ml_iret⟩ ?_
  refine mb_l_cons ⟨mm_ald _ _, ml_ald _ _⟩ ?_
  refine mb_l_cons ⟨mm_getf _ _ _, ml_getf _ _ _⟩ ?_
  refine mb_l_cons ⟨mm_ald _ _, ml_ald _ _⟩ ?_
  refine mb_l_cons ⟨mm_getf _ _ _, ml_getf _ _ _⟩ ?_
  refine mb_l_cons ⟨mm_ild _ _, ml_ild _ _⟩ ?_
  refine mb_l_cons ⟨mm_iast _, ml_iast _⟩ ?_
  refine mb_l_cons ⟨mm_ald _ _, ml_ald _ _⟩ ?_
  refine mb_l_cons ⟨mm_getf _ _ _, ml_getf _ _ _⟩ ?_
  refine mb_l_cons ⟨mm_ald _ _, ml_ald _ _⟩ ?_
  refine mb_l_cons ⟨mm_getf _ _ _, ml_getf _ _ _⟩ ?_
  refine mb_l_cons ⟨mm_ald _ _, ml_ald _ _⟩ ?_
  refine mb_l_cons ⟨mm_aast _ _, ml_aast _ _⟩ ?_
  refine mb_l_cons ⟨mm_ald _ _, ml_ald _ _⟩ ?_
  refine mb_l_cons ⟨mm_dup _, ml_dup _⟩ ?_
  refine mb_l_cons ⟨mm_getf _ _ _, ml_getf _ _ _⟩ ?_
  refine mb_l_cons ⟨mm_dupx1 _, ml_dupx1 _⟩ ?_
  refine mb_l_cons ⟨mm_push _ _, ml_push _ _⟩ ?_
  refine mb_l_cons ⟨mm_iadd _, ml_iadd _⟩ ?_
  refine mb_l_cons ⟨mm_putf _ _ _ _, ml_putf _ _ _ _⟩ ?_
  refine mb_l_cons ⟨mm_iret, ml_iret⟩ ?_
  exact mb_l_nil
theorem mz_X5_ownValue : ∀ pc i, mb_look mc_X5_ownValue pc = some i → mb_Mon i ∧ mb_Le i := by
  unfold mc_X5_ownValue
  refine mb_l_cons ⟨mm_ald _ _, ml_ald _ _⟩ ?_
  refine mb_l_cons ⟨mm_ild _ _, ml_ild _ _⟩ ?_
  refine mb_l_cons ⟨mm_callv _ _ _ _ _, ml_callv _ _ _ _ _⟩ ?_
  refine mb_l_cons ⟨mm_ast _ _, ml_ast _ _⟩ ?_
  refine mb_l_cons ⟨mm_ald _ _, ml_ald _ _⟩ ?_
  refine mb_l_cons ⟨mm_ifnn _ _, ml_ifnn _ _⟩ ?_
  refine mb_l_cons ⟨mm_push _ _, ml_push _ _⟩ ?_
  refine mb_l_cons ⟨mm_go _, ml_go _⟩ ?_
  refine mb_l_cons ⟨mm_ald _ _, ml_ald _ _⟩ ?_
  refine mb_l_cons ⟨mm_ild _ _, ml_ild _ _⟩ ?_
  refine mb_l_cons ⟨mm_callv _ _ _ _ _, ml_callv _ _ _ _ _⟩ ?_
  refine mb_l_cons ⟨mm_iret, ml_iret⟩ ?_
  exact mb_l_nil
theorem mz_X5_poseUpwards : ∀ pc i, mb_look mc_X5_poseUpwards pc = some i → mb_Mon i ∧ mb_Le i := by
  unfold mc_X5_poseUpwards
  refine mb_l_cons ⟨mm_push _ _, ml_push _ _⟩ ?_
  refine mb_l_cons ⟨mm_ist _ _, ml_ist _ _⟩ ?_
  refine mb_l_cons ⟨mm_ild _ _, ml_ild _ _⟩ ?_
  refine mb_l_cons ⟨mm_ist _ _, ml_ist _ _⟩ ?_
  refine mb_l_cons ⟨mm_push _ _, ml_push _ _⟩ ?_
  refine mb_l_cons ⟨mm_ist _ _, ml_ist _ _⟩ ?_
  refine mb_l_cons ⟨mm_ild _ _, ml_ild _ _⟩ ?_
  refine mb_l_cons ⟨mm_push _ _, ml_push _ _⟩ ?_
  refine mb_l_cons ⟨mm_if2 _ _ _, ml_if2 _ _ _⟩ ?_
  refine mb_l_cons ⟨mm_ald _ _, ml_ald _ _⟩ ?_
  refine mb_l_cons ⟨mm_ild _ _, ml_ild _ _⟩ ?_
  refine mb_l_cons ⟨mm_callv _ _ _ _ _, ml_callv _ _ _ _ _⟩ ?_
  refine mb_l_cons ⟨mm_if1 _ _ _, ml_if1 _ _ _⟩ ?_
  refine mb_l_cons ⟨mm_ild _ _, ml_ild _ _⟩ ?_
  refine mb_l_cons ⟨mm_ald _ _, ml_ald _ _⟩ ?_
  refine mb_l_cons ⟨mm_ild _ _, ml_ild _ _⟩ ?_
  refine mb_l_cons ⟨mm_ild _ _, ml_ild _ _⟩ ?_
  refine mb_l_cons ⟨mm_callv _ _ _ _ _, ml_callv _ _ _ _ _⟩ ?_
  refine mb_l_cons ⟨mm_iadd _, ml_iadd _⟩ ?_
  refine mb_l_cons ⟨mm_ist _ _, ml_ist _ _⟩ ?_
  refine mb_l_cons ⟨mm_ald _ _, ml_ald _ _⟩ ?_
  refine mb_l_cons ⟨mm_getf _ _ _, ml_getf _ _ _⟩ ?_
  refine mb_l_cons ⟨mm_ild _ _, ml_ild _ _⟩ ?_
  refine mb_l_cons ⟨mm_iald _, ml_iald _⟩ ?_
  refine mb_l_cons ⟨mm_ist _ _, ml_ist _ _⟩ ?_
  refine mb_l_cons ⟨mm_iinc _ _ _, ml_iinc _ _ _⟩ ?_
  refine mb_l_cons ⟨mm_go _, ml_go _⟩ ?_
  refine mb_l_cons ⟨mm_ild _ _, ml_ild _ _⟩ ?_
  refine mb_l_cons ⟨mm_iret, ml_iret⟩ ?_
  exact mb_l_nil
theorem mz_X5_poseAt : ∀ pc i, mb_look mc_X5_poseAt pc = some i → mb_Mon i ∧ mb_Le i := by
  unfold mc_X5_poseAt
  refine mb_l_cons ⟨mm_ald _ _, ml_ald _ _⟩ ?_
  refine mb_l_cons ⟨mm_getf _ _ _, ml_getf _ _ _⟩ ?_
  refine mb_l_cons ⟨mm_ifn _ _, ml_ifn _ _⟩ ?_
  refine mb_l_cons ⟨mm_ald _ _, ml_ald _ _⟩ ?_
  refine mb_l_cons ⟨mm_ild _ _, ml_ild _ _⟩ ?_
  refine mb_l_cons ⟨mm_callv _ _ _ _ _, ml_callv _ _ _ _ _⟩ ?_
  refine mb_l_cons ⟨mm_if1 _ _ _, ml_if1 _ _ _⟩ ?_
  refine mb_l_cons ⟨mm_ild _ _, ml_ild _ _⟩ ?_
  refine mb_l_cons ⟨mm_calls _ _ _, ml_calls _ _ _⟩ ?_
  refine mb_l_cons ⟨mm_if1 _ _ _, ml_if1 _ _ _⟩ ?_
  refine mb_l_cons ⟨mm_ald _ _, ml_ald _ _⟩ ?_
  refine mb_l_cons ⟨mm_ild _ _, ml_ild _ _⟩ ?_
  refine mb_l_cons ⟨mm_ild _ _, ml_ild _ _⟩ ?_
  refine mb_l_cons ⟨mm_callv _ _ _ _ _, ml_callv _ _ _ _ _⟩ ?_
  refine mb_l_cons ⟨mm_iret, ml_iret⟩ ?_
  refine mb_l_cons ⟨mm_ald _ _, ml_ald _ _⟩ ?_
  refine mb_l_cons ⟨mm_getf _ _ _, ml_getf _ _ _⟩ ?_
  refine mb_l_cons ⟨mm_ild _ _, ml_ild _ _⟩ ?_
  refine mb_l_cons ⟨mm_ald _ _, ml_ald _ _⟩ ?_
  refine mb_l_cons ⟨mm_getf _ _ _, ml_getf _ _ _⟩ ?_
  refine mb_l_cons ⟨mm_imul _, ml_imul _⟩ ?_
  refine mb_l_cons ⟨mm_ild _ _, ml_ild _ _⟩ ?_
  refine mb_l_cons ⟨mm_iadd _, ml_iadd _⟩ ?_
  refine mb_l_cons ⟨mm_iald _, ml_iald _⟩ ?_
  refine mb_l_cons ⟨mm_iret, ml_iret⟩ ?_
  exact mb_l_nil
theorem mz_X5_looksLike : ∀ pc i, mb_look mc_X5_looksLike pc = some i → mb_Mon i ∧ mb_Le i := by
  unfold mc_X5_looksLike
  refine mb_l_cons ⟨mm_ald _ _, ml_ald _ _⟩ ?_
  refine mb_l_cons ⟨mm_getf _ _ _, ml_getf _ _ _⟩ ?_
  refine mb_l_cons ⟨mm_ast _ _, ml_ast _ _⟩ ?_
  refine mb_l_cons ⟨mm_ald _ _, ml_ald _ _⟩ ?_
  refine mb_l_cons ⟨mm_getf _ _ _, ml_getf _ _ _⟩ ?_
  refine mb_l_cons ⟨mm_ifn _ _, ml_ifn _ _⟩ ?_
  refine mb_l_cons ⟨mm_ald _ _, ml_ald _ _⟩ ?_
  refine mb_l_cons ⟨mm_ifn _ _, ml_ifn _ _⟩ ?_
  refine mb_l_cons ⟨mm_ald _ _, ml_ald _ _⟩ ?_
  refine mb_l_cons ⟨mm_getf _ _ _, ml_getf _ _ _⟩ ?_
  refine mb_l_cons ⟨mm_ald _ _, ml_ald _ _⟩ ?_
  refine mb_l_cons ⟨mm_getf _ _ _, ml_getf _ _ _⟩ ?_
  refine mb_l_cons ⟨mm_if2 _ _ _, ml_if2 _ _ _⟩ ?_
  refine mb_l_cons ⟨mm_ild _ _, ml_ild _ _⟩ ?_
  refine mb_l_cons ⟨mm_calls _ _ _, ml_calls _ _ _⟩ ?_
  refine mb_l_cons ⟨mm_if1 _ _ _, ml_if1 _ _ _⟩ ?_
  refine mb_l_cons ⟨mm_push _ _, ml_push _ _⟩ ?_
  refine mb_l_cons ⟨mm_zret, ml_zret⟩ ?_
  refine mb_l_cons ⟨mm_ild _ _, ml_ild _ _⟩ ?_
  refine mb_l_cons ⟨mm_ald _ _, ml_ald _ _⟩ ?_
  refine mb_l_cons ⟨mm_getf _ _ _, ml_getf _ _ _⟩ ?_
  refine mb_l_cons ⟨mm_imul _, ml_imul _⟩ ?_
  refine mb_l_cons ⟨mm_ist _ _, ml_ist _ _⟩ ?_
  refine mb_l_cons ⟨mm_ild _ _, ml_ild _ _⟩ ?_
  refine mb_l_cons ⟨mm_ild _ _, ml_ild _ _⟩ ?_
  refine mb_l_cons ⟨mm_push _ _, ml_push _ _⟩ ?_
  refine mb_l_cons ⟨mm_iadd _, ml_iadd _⟩ ?_
  refine mb_l_cons ⟨mm_ald _ _, ml_ald _ _⟩ ?_
  refine mb_l_cons ⟨mm_getf _ _ _, ml_getf _ _ _⟩ ?_
  refine mb_l_cons ⟨mm_imul _, ml_imul _⟩ ?_
  refine mb_l_cons ⟨mm_if2 _ _ _, ml_if2 _ _ _⟩ ?_
  refine mb_l_cons ⟨mm_ald _ _, ml_ald _ _⟩ ?_
  refine mb_l_cons ⟨mm_getf _ _ _, ml_getf _ _ _⟩ ?_
  refine mb_l_cons ⟨mm_ild _ _, ml_ild _ _⟩ ?_
  refine mb_l_cons ⟨mm_iald _, ml_iald _⟩ ?_
  refine mb_l_cons ⟨mm_ald _ _, ml_ald _ _⟩ ?_
  refine mb_l_cons ⟨mm_ild _ _, ml_ild _ _⟩ ?_
  refine mb_l_cons ⟨mm_iald _, ml_iald _⟩ ?_
  refine mb_l_cons ⟨mm_if2 _ _ _, ml_if2 _ _ _⟩ ?_
  refine mb_l_cons ⟨mm_push _ _, ml_push _ _⟩ ?_
  refine mb_l_cons ⟨mm_zret, ml_zret⟩ ?_
  refine mb_l_cons ⟨mm_iinc _ _ _, ml_iinc _ _ _⟩ ?_
  refine mb_l_cons ⟨mm_go _, ml_go _⟩ ?_
  refine mb_l_cons ⟨mm_push _ _, ml_push _ _⟩ ?_
  refine mb_l_cons ⟨mm_zret, ml_zret⟩ ?_
  exact mb_l_nil
theorem mz_X5_versionOfIt : ∀ pc i, mb_look mc_X5_versionOfIt pc = some i → mb_Mon i ∧ mb_Le i := by
  unfold mc_X5_versionOfIt
  refine mb_l_cons ⟨mm_new _ _ _, ml_new _ _ _⟩ ?_
  refine mb_l_cons ⟨mm_dup _, ml_dup _⟩ ?_
  refine mb_l_cons ⟨mm_calli _ _ _, ml_calli _ _ _⟩ ?_
  refine mb_l_cons ⟨mm_ast _ _, ml_ast _ _⟩ ?_
  refine mb_l_cons ⟨mm_push _ _, ml_push _ _⟩ ?_
  refine mb_l_cons ⟨mm_ist _ _, ml_ist _ _⟩ ?_
  refine mb_l_cons ⟨mm_ild _ _, ml_ild _ _⟩ ?_
  refine mb_l_cons ⟨mm_ald _ _, ml_ald _ _⟩ ?_
  refine mb_l_cons ⟨mm_getf _ _ _, ml_getf _ _ _⟩ ?_
  refine mb_l_cons ⟨mm_if2 _ _ _, ml_if2 _ _ _⟩ ?_
  refine mb_l_cons ⟨mm_ald _ _, ml_ald _ _⟩ ?_
  refine mb_l_cons ⟨mm_ild _ _, ml_ild _ _⟩ ?_
  refine mb_l_cons ⟨mm_callv _ _ _ _ _, ml_callv _ _ _ _ _⟩ ?_
  refine mb_l_cons ⟨mm_ast _ _, ml_ast _ _⟩ ?_
  refine mb_l_cons ⟨mm_ald _ _, ml_ald _ _⟩ ?_
  refine mb_l_cons ⟨mm_ifn _ _, ml_ifn _ _⟩ ?_
  refine mb_l_cons ⟨mm_ald _ _, ml_ald _ _⟩ ?_
  refine mb_l_cons ⟨mm_ald _ _, ml_ald _ _⟩ ?_
  refine mb_l_cons ⟨mm_getf _ _ _, ml_getf _ _ _⟩ ?_
  refine mb_l_cons ⟨mm_ild _ _, ml_ild _ _⟩ ?_
  refine mb_l_cons ⟨mm_iald _, ml_iald _⟩ ?_
  refine mb_l_cons ⟨mm_ald _ _, ml_ald _ _⟩ ?_
  refine mb_l_cons ⟨mm_callv _ _ _ _ _, ml_callv _ _ _ _ _⟩ ?_
  refine mb_l_cons ⟨mm_callv _ _ _ _ _, ml_callv _ _ _ _ _⟩ ?_
  refine mb_l_cons ⟨mm_pop _, ml_pop _⟩ ?_
  refine mb_l_cons ⟨mm_iinc _ _ _, ml_iinc _ _ _⟩ ?_
  refine mb_l_cons ⟨mm_go _, ml_go _⟩ ?_
  refine mb_l_cons ⟨mm_ald _ _, ml_ald _ _⟩ ?_
  refine mb_l_cons ⟨mm_callv _ _ _ _ _, ml_callv _ _ _ _ _⟩ ?_
  refine mb_l_cons ⟨mm_ald _ _, ml_ald _ _⟩ ?_
  refine mb_l_cons ⟨mm_aret, ml_aret⟩ ?_
  exact mb_l_nil
theorem mz_X5_fixPoses : ∀ pc i, mb_look mc_X5_fixPoses pc = some i → mb_Mon i ∧ mb_Le i := by
  unfold mc_X5_fixPoses
  refine mb_l_cons ⟨mm_push _ _, ml_push _ _⟩ ?_
  refine mb_l_cons ⟨mm_ald _ _, ml_ald _ _⟩ ?_
  refine mb_l_cons ⟨mm_getf _ _ _, ml_getf _ _ _⟩ ?_
  refine mb_l_cons ⟨mm_imul _, ml_imul _⟩ ?_
  refine mb_l_cons ⟨mm_newi _, ml_newi _⟩ ?_
  refine mb_l_cons ⟨mm_ast _ _, ml_ast _ _⟩ ?_
  refine mb_l_cons ⟨mm_push _ _, ml_push _ _⟩ ?_
  refine mb_l_cons ⟨mm_ist _ _, ml_ist _ _⟩ ?_
  refine mb_l_cons ⟨mm_ild _ _, ml_ild _ _⟩ ?_
  refine mb_l_cons ⟨mm_push _ _, ml_push _ _⟩ ?_
  refine mb_l_cons ⟨mm_if2 _ _ _, ml_if2 _ _ _⟩ ?_
  refine mb_l_cons ⟨mm_ild _ _, ml_ild _ _⟩ ?_
  refine mb_l_cons ⟨mm_ald _ _, ml_ald _ _⟩ ?_
  refine mb_l_cons ⟨mm_getf _ _ _, ml_getf _ _ _⟩ ?_
  refine mb_l_cons ⟨mm_imul _, ml_imul _⟩ ?_
  refine mb_l_cons ⟨mm_ist _ _, ml_ist _ _⟩ ?_
  refine mb_l_cons ⟨mm_push _ _, ml_push _ _⟩ ?_
  refine mb_l_cons ⟨mm_ist _ _, ml_ist _ _⟩ ?_
  refine mb_l_cons ⟨mm_ild _ _, ml_ild _ _⟩ ?_
  refine mb_l_cons ⟨mm_ald _ _, ml_ald _ _⟩ ?_
  refine mb_l_cons ⟨mm_getf _ _ _, ml_getf _ _ _⟩ ?_
  refine mb_l_cons ⟨mm_if2 _ _ _, ml_if2 _ _ _⟩ ?_
  refine mb_l_cons ⟨mm_ald _ _, ml_ald _ _⟩ ?_
  refine mb_l_cons ⟨mm_getf _ _ _, ml_getf _ _ _⟩ ?_
  refine mb_l_cons ⟨mm_ild _ _, ml_ild _ _⟩ ?_
  refine mb_l_cons ⟨mm_iald _, ml_iald _⟩ ?_
  refine mb_l_cons ⟨mm_ist _ _, ml_ist _ _⟩ ?_
  refine mb_l_cons ⟨mm_ald _ _, ml_ald _ _⟩ ?_
  refine mb_l_cons ⟨mm_ild _ _, ml_ild _ _⟩ ?_
  refine mb_l_cons ⟨mm_callv _ _ _ _ _, ml_callv _ _ _ _ _⟩ ?_
  refine mb_l_cons ⟨mm_if1 _ _ _, ml_if1 _ _ _⟩ ?_
  refine mb_l_cons ⟨mm_ald _ _, ml_ald _ _⟩ ?_
  refine mb_l_cons ⟨mm_ild _ _, ml_ild _ _⟩ ?_
  refine mb_l_cons ⟨mm_ild _ _, ml_ild _ _⟩ ?_
  refine mb_l_cons ⟨mm_iadd _, ml_iadd _⟩ ?_
  refine mb_l_cons ⟨mm_iald _, ml_iald _⟩ ?_
  refine mb_l_cons ⟨mm_go _, ml_go _⟩ ?_
  refine mb_l_cons ⟨mm_push _ _, ml_push _ _⟩ ?_
  refine mb_l_cons ⟨mm_ist _ _, ml_ist _ _⟩ ?_
  refine mb_l_cons ⟨mm_ald _ _, ml_ald _ _⟩ ?_
  refine mb_l_cons ⟨mm_ild _ _, ml_ild _ _⟩ ?_
  refine mb_l_cons ⟨mm_ild _ _, ml_ild _ _⟩ ?_
  refine mb_l_cons ⟨mm_iadd _, ml_iadd _⟩ ?_
  refine mb_l_cons ⟨mm_ild _ _, ml_ild _ _⟩ ?_
  refine mb_l_cons ⟨mm_ald _ _, ml_ald _ _⟩ ?_
  refine mb_l_cons ⟨mm_ild _ _, ml_ild _ _⟩ ?_
  refine mb_l_cons ⟨mm_ild _ _, ml_ild _ _⟩ ?_
  refine mb_l_cons ⟨mm_callv _ _ _ _ _, ml_callv _ _ _ _ _⟩ ?_
  refine mb_l_cons ⟨mm_iadd _, ml_iadd _⟩ ?_
  refine mb_l_cons ⟨mm_iast _, ml_iast _⟩ ?_
  refine mb_l_cons ⟨mm_iinc _ _ _, ml_iinc _ _ _⟩ ?_
  refine mb_l_cons ⟨mm_go _, ml_go _⟩ ?_
  refine mb_l_cons ⟨mm_iinc _ _ _, ml_iinc _ _ _⟩ ?_
  refine mb_l_cons ⟨mm_go _, ml_go _⟩ ?_
  refine mb_l_cons ⟨mm_ald _ _, ml_ald _ _⟩ ?_
  refine mb_l_cons ⟨mm_ald _ _, ml_ald _ _⟩ ?_
  refine mb_l_cons ⟨mm_putf _ _ _ _, ml_putf _ _ _ _⟩ ?_
  refine mb_l_cons ⟨mm_vret, ml_vret⟩ ?_
  exact mb_l_nil
theorem mz_X6_init : ∀ pc i, mb_look mc_X6_init pc = some i → mb_Mon i ∧ mb_Le i := by
  unfold mc_X6_init
  refine mb_l_cons ⟨mm_ald _ _, ml_ald _ _⟩ ?_
  refine mb_l_cons ⟨mm_oinit _, ml_oinit _⟩ ?_
  refine mb_l_cons ⟨mm_ald _ _, ml_ald _ _⟩ ?_
  refine mb_l_cons ⟨mm_push _ _, ml_push _ _⟩ ?_
  refine mb_l_cons ⟨mm_newq _ _, ml_newq _ _⟩ ?_
  refine mb_l_cons ⟨mm_putf _ _ _ _, ml_putf _ _ _ _⟩ ?_
  refine mb_l_cons ⟨mm_ald _ _, ml_ald _ _⟩ ?_
  refine mb_l_cons ⟨mm_push _ _, ml_push _ _⟩ ?_
  refine mb_l_cons ⟨mm_newq _ _, ml_newq _ _⟩ ?_
  refine mb_l_cons ⟨mm_putf _ _ _ _, ml_putf _ _ _ _⟩ ?_
  refine mb_l_cons ⟨mm_push _ _, ml_push _ _⟩ ?_
  refine mb_l_cons ⟨mm_ist _ _, ml_ist _ _⟩ ?_
  refine mb_l_cons ⟨mm_ild _ _, ml_ild _ _⟩ ?_
  refine mb_l_cons ⟨mm_ild _ _, ml_ild _ _⟩ ?_
  refine mb_l_cons ⟨mm_if2 _ _ _, ml_if2 _ _ _⟩ ?_
  refine mb_l_cons ⟨mm_ild _ _, ml_ild _ _⟩ ?_
  refine mb_l_cons ⟨mm_push _ _, ml_push _ _⟩ ?_
  refine mb_l_cons ⟨mm_if2 _ _ _, ml_if2 _ _ _⟩ ?_
  refine mb_l_cons ⟨mm_ald _ _, ml_ald _ _⟩ ?_
  refine mb_l_cons ⟨mm_getf _ _ _, ml_getf _ _ _⟩ ?_
  refine mb_l_cons ⟨mm_ild _ _, ml_ild _ _⟩ ?_
  refine mb_l_cons ⟨mm_new _ _ _, ml_new _ _ _⟩ ?_
  refine mb_l_cons ⟨mm_dup _, ml_dup _⟩ ?_
  refine mb_l_cons ⟨mm_ild _ _, ml_ild _ _⟩ ?_
  refine mb_l_cons ⟨mm_calli _ _ _, ml_calli _ _ _⟩ ?_
  refine mb_l_cons ⟨mm_aast _ _, ml_aast _ _⟩ ?_
  refine mb_l_cons ⟨mm_ald _ _, ml_ald _ _⟩ ?_
  refine mb_l_cons ⟨mm_dup _, ml_dup _⟩ ?_
  refine mb_l_cons ⟨mm_getf _ _ _, ml_getf _ _ _⟩ ?_
  refine mb_l_cons ⟨mm_push _ _, ml_push _ _⟩ ?_
  refine mb_l_cons ⟨mm_iadd _, ml_iadd _⟩ ?_
  refine mb_l_cons ⟨mm_putf _ _ _ _, ml_putf _ _ _ _⟩ ?_
  refine mb_l_cons ⟨mm_iinc _ _ _, ml_iinc _ _ _⟩ ?_
  refine mb_l_cons ⟨mm_go _, ml_go _⟩ ?_
  refine mb_l_cons ⟨mm_vret, ml_vret⟩ ?_
  exact mb_l_nil
theorem mz_X6_hasFrame : ∀ pc i, mb_look mc_X6_hasFrame pc = some i → mb_Mon i ∧ mb_Le i := by
  unfold mc_X6_hasFrame
  refine mb_l_cons ⟨mm_ild _ _, ml_ild _ _⟩ ?_
  refine mb_l_cons ⟨mm_if1 _ _ _, ml_if1 _ _ _⟩ ?_
  refine mb_l_cons ⟨mm_ild _ _, ml_ild _ _⟩ ?_
  refine mb_l_cons ⟨mm_ald _ _, ml_ald _ _⟩ ?_
  refine mb_l_cons ⟨mm_getf _ _ _, ml_getf _ _ _⟩ ?_
  refine mb_l_cons ⟨mm_if2 _ _ _, ml_if2 _ _ _⟩ ?_
  refine mb_l_cons ⟨mm_push _ _, ml_push _ _⟩ ?_
  refine mb_l_cons ⟨mm_go _, ml_go _⟩ ?_
  refine mb_l_cons ⟨mm_push _ _, ml_push _ _⟩ ?_
  refine mb_l_cons ⟨mm_zret, ml_zret⟩ ?_
  exact mb_l_nil
theorem mz_X6_frameAt : ∀ pc i, mb_look mc_X6_frameAt pc = some i → mb_Mon i ∧ mb_Le i := by
  unfold mc_X6_frameAt
  refine mb_l_cons ⟨mm_ald _ _, ml_ald _ _⟩ ?_
  refine mb_l_cons ⟨mm_ild _ _, ml_ild _ _⟩ ?_
  refine mb_l_cons ⟨mm_callv _ _ _ _ _, ml_callv _ _ _ _ _⟩ ?_
  refine mb_l_cons ⟨mm_if1 _ _ _, ml_if1 _ _ _⟩ ?_
  refine mb_l_cons ⟨mm_ald _ _, ml_ald _ _⟩ ?_
  refine mb_l_cons ⟨mm_getf _ _ _, ml_getf _ _ _⟩ ?_
  refine mb_l_cons ⟨mm_ild _ _, ml_ild _ _⟩ ?_
  refine mb_l_cons ⟨mm_aald _, ml_aald _⟩ ?_
  refine mb_l_cons ⟨mm_go _, ml_go _⟩ ?_
  refine mb_l_cons ⟨mm_push _ _, ml_push _ _⟩ ?_
  refine mb_l_cons ⟨mm_aret, ml_aret⟩ ?_
  exact mb_l_nil
theorem mz_X6_castingOf : ∀ pc i, mb_look mc_X6_castingOf pc = some i → mb_Mon i ∧ mb_Le i := by
  unfold mc_X6_castingOf
  refine mb_l_cons ⟨mm_ild _ _, ml_ild _ _⟩ ?_
  refine mb_l_cons ⟨mm_if1 _ _ _, ml_if1 _ _ _⟩ ?_
  refine mb_l_cons ⟨mm_ild _ _, ml_ild _ _⟩ ?_
  refine mb_l_cons ⟨mm_push _ _, ml_push _ _⟩ ?_
  refine mb_l_cons ⟨mm_if2 _ _ _, ml_if2 _ _ _⟩ ?_
  refine mb_l_cons ⟨mm_push _ _, ml_push _ _⟩ ?_
  refine mb_l_cons ⟨mm_go _, ml_go _⟩ ?_
  refine mb_l_cons ⟨mm_ald _ _, ml_ald _ _⟩ ?_
  refine mb_l_cons ⟨mm_getf _ _ _, ml_getf _ _ _⟩ ?_
  refine mb_l_cons ⟨mm_ild _ _, ml_ild _ _⟩ ?_
  refine mb_l_cons ⟨mm_aald _, ml_aald _⟩ ?_
  refine mb_l_cons ⟨mm_aret, ml_aret⟩ ?_
  exact mb_l_nil
theorem mz_X6_setCasting : ∀ pc i, mb_look mc_X6_setCasting pc = some i → mb_Mon i ∧ mb_Le i := by
  unfold mc_X6_setCasting
  refine mb_l_cons ⟨mm_ild _ _, ml_ild _ _⟩ ?_
  refine mb_l_cons ⟨mm_if1 _ _ _, ml_if1 _ _ _⟩ ?_
  refine mb_l_cons ⟨mm_ild _ _, ml_ild _ _⟩ ?_
  refine mb_l_cons ⟨mm_push _ _, ml_push _ _⟩ ?_
  refine mb_l_cons ⟨mm_if2 _ _ _, ml_if2 _ _ _⟩ ?_
  refine mb_l_cons ⟨mm_vret, ml_vret⟩ ?_
  refine mb_l_cons ⟨mm_ald _ _, ml_ald _ _⟩ ?_
  refine mb_l_cons ⟨mm_getf _ _ _, ml_getf _ _ _⟩ ?_
  refine mb_l_cons ⟨mm_ild _ _, ml_ild _ _⟩ ?_
  refine mb_l_cons ⟨mm_aald _, ml_aald _⟩ ?_
  refine mb_l_cons ⟨mm_ast _ _, ml_ast _ _⟩ ?_
  refine mb_l_cons ⟨mm_ald _ _, ml_ald _ _⟩ ?_
  refine mb_l_cons ⟨mm_ifnn _ _, ml_ifnn _ _⟩ ?_
  refine mb_l_cons ⟨mm_new _ _ _, ml_new _ _ _⟩ ?_
  refine mb_l_cons ⟨mm_dup _, ml_dup _⟩ ?_
  refine mb_l_cons ⟨mm_calli _ _ _, ml_calli _ _ _⟩ ?_
  refine mb_l_cons ⟨mm_ast _ _, ml_ast _ _⟩ ?_
  refine mb_l_cons ⟨mm_ald _ _, ml_ald _ _⟩ ?_
  refine mb_l_cons ⟨mm_getf _ _ _, ml_getf _ _ _⟩ ?_
  refine mb_l_cons ⟨mm_ild _ _, ml_ild _ _⟩ ?_
  refine mb_l_cons ⟨mm_ald _ _, ml_ald _ _⟩ ?_
  refine mb_l_cons ⟨mm_aast _ _, ml_aast _ _⟩ ?_
  refine mb_l_cons ⟨mm_ald _ _, ml_ald _ _⟩ ?_
  refine mb_l_cons ⟨mm_dup _, ml_dup _⟩ ?_
  refine mb_l_cons ⟨mm_getf _ _ _, ml_getf _ _ _⟩ ?_
  refine mb_l_cons ⟨mm_push _ _, ml_push _ _⟩ ?_
  refine mb_l_cons ⟨mm_iadd _, ml_iadd _⟩ ?_
  refine mb_l_cons ⟨mm_putf _ _ _ _, ml_putf _ _ _ _⟩ ?_
  refine mb_l_cons ⟨mm_ald _ _, ml_ald _ _⟩ ?_
  refine mb_l_cons ⟨mm_ild _ _, ml_ild _ _⟩ ?_
  refine mb_l_cons ⟨mm_putf _ _ _ _, ml_putf _ _ _ _⟩ ?_
  refine mb_l_cons ⟨mm_ald _ _, ml_ald _ _⟩ ?_
  refine mb_l_cons ⟨mm_ild _ _, ml_ild _ _⟩ ?_
  refine mb_l_cons ⟨mm_putf _ _ _ _, ml_putf _ _ _ _⟩ ?_
  refine mb_l_cons ⟨mm_ald _ _, ml_ald _ _⟩ ?_
  refine mb_l_cons ⟨mm_ild _ _, ml_ild _ _⟩ ?_
  refine mb_l_cons ⟨mm_putf _ _ _ _, ml_putf _ _ _ _⟩ ?_
  refine mb_l_cons ⟨mm_vret, ml_vret⟩ ?_
  exact mb_l_nil
theorem mz_X6_removeFrames : ∀ pc i, mb_look mc_X6_removeFrames pc = some i → mb_Mon i ∧ mb_Le i := by
  unfold mc_X6_removeFrames
  refine mb_l_cons ⟨mm_ald _ _, ml_ald _ _⟩ ?_
  refine mb_l_cons ⟨mm_ild _ _, ml_ild _ _⟩ ?_
  refine mb_l_cons ⟨mm_callv _ _ _ _ _, ml_callv _ _ _ _ _⟩ ?_
  refine mb_l_cons ⟨mm_if1 _ _ _, ml_if1 _ _ _⟩ ?_
  refine mb_l_cons ⟨mm_ild _ _, ml_ild _ _⟩ ?_
  refine mb_l_cons ⟨mm_push _ _, ml_push _ _⟩ ?_
  refine mb_l_cons ⟨mm_if2 _ _ _, ml_if2 _ _ _⟩ ?_
  refine mb_l_cons ⟨mm_ild _ _, ml_ild _ _⟩ ?_
  refine mb_l_cons ⟨mm_ald _ _, ml_ald _ _⟩ ?_
  refine mb_l_cons ⟨mm_getf _ _ _, ml_getf _ _ _⟩ ?_
  refine mb_l_cons ⟨mm_ild _ _, ml_ild _ _⟩ ?_
  refine mb_l_cons ⟨mm_isub _, ml_isub _⟩ ?_
  refine mb_l_cons ⟨mm_if2 _ _ _, ml_if2 _ _ _⟩ ?_
  refine mb_l_cons ⟨mm_vret, ml_vret⟩ ?_
  refine mb_l_cons ⟨mm_ild _ _, ml_ild _ _⟩ ?_
  refine mb_l_cons ⟨mm_ist _ _, ml_ist _ _⟩ ?_
  refine mb_l_cons ⟨mm_ild _ _, ml_ild _ _⟩ ?_
  refine mb_l_cons ⟨mm_ild _ _, ml_ild _ _⟩ ?_
  refine mb_l_cons ⟨mm_iadd _, ml_iadd _⟩ ?_
  refine mb_l_cons ⟨mm_ald _ _, ml_ald _ _⟩ ?_
  refine mb_l_cons ⟨mm_getf _ _ _, ml_getf _ _ _⟩ ?_
  refine mb_l_cons ⟨mm_if2 _ _ _, ml_if2 _ _ _⟩ ?_
  refine mb_l_cons ⟨mm_ald _ _, ml_ald _ _⟩ ?_
  refine mb_l_cons ⟨mm_getf _ _ _, ml_getf _ _ _⟩ ?_
  refine mb_l_cons ⟨mm_ild _ _, ml_ild _ _⟩ ?_
  refine mb_l_cons ⟨mm_ald _ _, ml_ald _ _⟩ ?_
  refine mb_l_cons ⟨mm_getf _ _ _, ml_getf _ _ _⟩ ?_
  refine mb_l_cons ⟨mm_ild _ _, ml_ild _ _⟩ ?_
  refine mb_l_cons ⟨mm_ild _ _, ml_ild _ _⟩ ?_
  refine mb_l_cons ⟨mm_iadd _, ml_iadd _⟩ ?_
  refine mb_l_cons ⟨mm_aald _, ml_aald _⟩ ?_
  refine mb_l_cons ⟨mm_aast _ _, ml_aast _ _⟩ ?_
  refine mb_l_cons ⟨mm_iinc _ _ _, ml_iinc _ _ _⟩ ?_
  refine mb_l_cons ⟨mm_go _, ml_go _⟩ ?_
  refine mb_l_cons ⟨mm_ald _ _, ml_ald _ _⟩ ?_
  refine mb_l_cons ⟨mm_dup _, ml_dup _⟩ ?_
  refine mb_l_cons ⟨mm_getf _ _ _, ml_getf _ _ _⟩ ?_
  refine mb_l_cons ⟨mm_ild _ _, ml_ild _ _⟩ ?_
  refine mb_l_cons ⟨mm_isub _, ml_isub _⟩ ?_
  refine mb_l_cons ⟨mm_putf _ _ _ _, ml_putf _ _ _ _⟩ ?_
  refine mb_l_cons ⟨mm_vret, ml_vret⟩ ?_
  exact mb_l_nil
theorem mz_X6_follows : ∀ pc i, mb_look mc_X6_follows pc = some i → mb_Mon i ∧ mb_Le i := by
  unfold mc_X6_follows
  refine mb_l_cons ⟨mm_ald _ _, ml_ald _ _⟩ ?_
  refine mb_l_cons ⟨mm_ild _ _, ml_ild _ _⟩ ?_
  refine mb_l_cons ⟨mm_callv _ _ _ _ _, ml_callv _ _ _ _ _⟩ ?_
  refine mb_l_cons ⟨mm_ast _ _, ml_ast _ _⟩ ?_
  refine mb_l_cons ⟨mm_ald _ _, ml_ald _ _⟩ ?_
  refine mb_l_cons ⟨mm_ifn _ _, ml_ifn _ _⟩ ?_
  refine mb_l_cons ⟨mm_ald _ _, ml_ald _ _⟩ ?_
  refine mb_l_cons ⟨mm_getf _ _ _, ml_getf _ _ _⟩ ?_
  refine mb_l_cons ⟨mm_push _ _, ml_push _ _⟩ ?_
  refine mb_l_cons ⟨mm_if2 _ _ _, ml_if2 _ _ _⟩ ?_
  refine mb_l_cons ⟨mm_push _ _, ml_push _ _⟩ ?_
  refine mb_l_cons ⟨mm_go _, ml_go _⟩ ?_
  refine mb_l_cons ⟨mm_push _ _, ml_push _ _⟩ ?_
  refine mb_l_cons ⟨mm_zret, ml_zret⟩ ?_
  exact mb_l_nil
theorem mz_X6_keepsUnlikeVersions : ∀ pc i, mb_look mc_X6_keepsUnlikeVersions pc = some i → mb_Mon i ∧ mb_Le i := by
  unfold mc_X6_keepsUnlikeVersions
  refine mb_l_cons ⟨mm_push _ _, ml_push _ _⟩ ?_
  refine mb_l_cons ⟨mm_ist _ _, ml_ist _ _⟩ ?_
  refine mb_l_cons ⟨mm_push _ _, ml_push _ _⟩ ?_
  refine mb_l_cons ⟨mm_ist _ _, ml_ist _ _⟩ ?_
  refine mb_l_cons ⟨mm_ild _ _, ml_ild _ _⟩ ?_
  refine mb_l_cons ⟨mm_ald _ _, ml_ald _ _⟩ ?_
  refine mb_l_cons ⟨mm_getf _ _ _, ml_getf _ _ _⟩ ?_
  refine mb_l_cons ⟨mm_if2 _ _ _, ml_if2 _ _ _⟩ ?_
  refine mb_l_cons ⟨mm_ald _ _, ml_ald _ _⟩ ?_
  refine mb_l_cons ⟨mm_ild _ _, ml_ild _ _⟩ ?_
  refine mb_l_cons ⟨mm_callv _ _ _ _ _, ml_callv _ _ _ _ _⟩ ?_
  refine mb_l_cons ⟨mm_ast _ _, ml_ast _ _⟩ ?_
  refine mb_l_cons ⟨mm_ald _ _, ml_ald _ _⟩ ?_
  refine mb_l_cons ⟨mm_ifnn _ _, ml_ifnn _ _⟩ ?_
  refine mb_l_cons ⟨mm_push _ _, ml_push _ _⟩ ?_
  refine mb_l_cons ⟨mm_go _, ml_go _⟩ ?_
  refine mb_l_cons ⟨mm_ald _ _, ml_ald _ _⟩ ?_
  refine mb_l_cons ⟨mm_ild _ _, ml_ild _ _⟩ ?_
  refine mb_l_cons ⟨mm_callv _ _ _ _ _, ml_callv _ _ _ _ _⟩ ?_
  refine mb_l_cons ⟨mm_ist _ _, ml_ist _ _⟩ ?_
  refine mb_l_cons ⟨mm_ild _ _, ml_ild _ _⟩ ?_
  refine mb_l_cons ⟨mm_push _ _, ml_push _ _⟩ ?_
  refine mb_l_cons ⟨mm_if2 _ _ _, ml_if2 _ _ _⟩ ?_
  refine mb_l_cons ⟨mm_ild _ _, ml_ild _ _⟩ ?_
  refine mb_l_cons ⟨mm_ist _ _, ml_ist _ _⟩ ?_
  refine mb_l_cons ⟨mm_go _, ml_go _⟩ ?_
  refine mb_l_cons ⟨mm_ild _ _, ml_ild _ _⟩ ?_
  refine mb_l_cons ⟨mm_push _ _, ml_push _ _⟩ ?_
  refine mb_l_cons ⟨mm_if2 _ _ _, ml_if2 _ _ _⟩ ?_
  refine mb_l_cons ⟨mm_ild _ _, ml_ild _ _⟩ ?_
  refine mb_l_cons ⟨mm_ild _ _, ml_ild _ _⟩ ?_
  refine mb_l_cons ⟨mm_if2 _ _ _, ml_if2 _ _ _⟩ ?_
  refine mb_l_cons ⟨mm_push _ _, ml_push _ _⟩ ?_
  refine mb_l_cons ⟨mm_zret, ml_zret⟩ ?_
  refine mb_l_cons ⟨mm_iinc _ _ _, ml_iinc _ _ _⟩ ?_
  refine mb_l_cons ⟨mm_go _, ml_go _⟩ ?_
  refine mb_l_cons ⟨mm_push _ _, ml_push _ _⟩ ?_
  refine mb_l_cons ⟨mm_zret, ml_zret⟩ ?_
  exact mb_l_nil
theorem mz_X7_init : ∀ pc i, mb_look mc_X7_init pc = some i → mb_Mon i ∧ mb_Le i := by
  unfold mc_X7_init
  refine mb_l_cons ⟨mm_ald _ _, ml_ald _ _⟩ ?_
  refine mb_l_cons ⟨mm_oinit _, ml_oinit _⟩ ?_
  refine mb_l_cons ⟨mm_ald _ _, ml_ald _ _⟩ ?_
  refine mb_l_cons ⟨mm_push _ _, ml_push _ _⟩ ?_
  refine mb_l_cons ⟨mm_newq _ _, ml_newq _ _⟩ ?_
  refine mb_l_cons ⟨mm_putf _ _ _ _, ml_putf _ _ _ _⟩ ?_
  refine mb_l_cons ⟨mm_ald _ _, ml_ald _ _⟩ ?_
  refine mb_l_cons ⟨mm_push _ _, ml_push _ _⟩ ?_
  refine mb_l_cons ⟨mm_newq _ _, ml_newq _ _⟩ ?_
  refine mb_l_cons ⟨mm_putf _ _ _ _, ml_putf _ _ _ _⟩ ?_
  refine mb_l_cons ⟨mm_ald _ _, ml_ald _ _⟩ ?_
  refine mb_l_cons ⟨mm_push _ _, ml_push _ _⟩ ?_
  refine mb_l_cons ⟨mm_newq _ _, ml_newq _ _⟩ ?_
  refine mb_l_cons ⟨mm_putf _ _ _ _, ml_putf _ _ _ _⟩ ?_
  refine mb_l_cons ⟨mm_vret, ml_vret⟩ ?_
  exact mb_l_nil
theorem mz_X7_asset : ∀ pc i, mb_look mc_X7_asset pc = some i → mb_Mon i ∧ mb_Le i := by
  unfold mc_X7_asset
  refine mb_l_cons ⟨mm_ald _ _, ml_ald _ _⟩ ?_
  refine mb_l_cons ⟨mm_getf _ _ _, ml_getf _ _ _⟩ ?_
  refine mb_l_cons ⟨mm_push _ _, ml_push _ _⟩ ?_
  refine mb_l_cons ⟨mm_if2 _ _ _, ml_if2 _ _ _⟩ ?_
  refine mb_l_cons ⟨mm_thr _, ml_thr _⟩ ?_
  refine mb_l_cons ⟨mm_ald _ _, ml_ald _ _⟩ ?_
  refine mb_l_cons ⟨mm_getf _ _ _, ml_getf _ _ _⟩ ?_
  refine mb_l_cons ⟨mm_ald _ _, ml_ald _ _⟩ ?_
  refine mb_l_cons ⟨mm_getf _ _ _, ml_getf _ _ _⟩ ?_
  refine mb_l_cons ⟨mm_new _ _ _, ml_new _ _ _⟩ ?_
  refine mb_l_cons ⟨mm_dup _, ml_dup _⟩ ?_
  refine mb_l_cons ⟨mm_calli _ _ _, ml_calli _ _ _⟩ ?_
  refine mb_l_cons ⟨mm_aast _ _, ml_aast _ _⟩ ?_
  refine mb_l_cons ⟨mm_ald _ _, ml_ald _ _⟩ ?_
  refine mb_l_cons ⟨mm_dup _, ml_dup _⟩ ?_
  refine mb_l_cons ⟨mm_getf _ _ _, ml_getf _ _ _⟩ ?_
  refine mb_l_cons ⟨mm_dupx1 _, ml_dupx1 _⟩ ?_
  refine mb_l_cons ⟨mm_push _ _, ml_push _ _⟩ ?_
  refine mb_l_cons ⟨mm_iadd _, ml_iadd _⟩ ?_
  refine mb_l_cons ⟨mm_putf _ _ _ _, ml_putf _ _ _ _⟩ ?_
  refine mb_l_cons ⟨mm_iret, ml_iret⟩ ?_
  exact mb_l_nil
theorem mz_X7_bone : ∀ pc i, mb_look mc_X7_bone pc = some i → mb_Mon i ∧ mb_Le i := by
  unfold mc_X7_bone
  refine mb_l_cons ⟨mm_ald _ _, ml_ald _ _⟩ ?_
  refine mb_l_cons ⟨mm_ild _ _, ml_ild _ _⟩ ?_
  refine mb_l_cons ⟨mm_callv _ _ _ _ _, ml_callv _ _ _ _ _⟩ ?_
  refine mb_l_cons ⟨mm_ast _ _, ml_ast _ _⟩ ?_
  refine mb_l_cons ⟨mm_ald _ _, ml_ald _ _⟩ ?_
  refine mb_l_cons ⟨mm_ifn _ _, ml_ifn _ _⟩ ?_
  refine mb_l_cons ⟨mm_ild _ _, ml_ild _ _⟩ ?_
  refine mb_l_cons ⟨mm_push _ _, ml_push _ _⟩ ?_
  refine mb_l_cons ⟨mm_if2 _ _ _, ml_if2 _ _ _⟩ ?_
  refine mb_l_cons ⟨mm_ald _ _, ml_ald _ _⟩ ?_
  refine mb_l_cons ⟨mm_getf _ _ _, ml_getf _ _ _⟩ ?_
  refine mb_l_cons ⟨mm_ild _ _, ml_ild _ _⟩ ?_
  refine mb_l_cons ⟨mm_callv _ _ _ _ _, ml_callv _ _ _ _ _⟩ ?_
  refine mb_l_cons ⟨mm_if1 _ _ _, ml_if1 _ _ _⟩ ?_
  refine mb_l_cons ⟨mm_thr _, ml_thr _⟩ ?_
  refine mb_l_cons ⟨mm_ald _ _, ml_ald _ _⟩ ?_
  refine mb_l_cons ⟨mm_getf _ _ _, ml_getf _ _ _⟩ ?_
  refine mb_l_cons ⟨mm_getf _ _ _, ml_getf _ _ _⟩ ?_
  refine mb_l_cons ⟨mm_push _ _, ml_push _ _⟩ ?_
  refine mb_l_cons ⟨mm_if2 _ _ _, ml_if2 _ _ _⟩ ?_
  refine mb_l_cons ⟨mm_thr _, ml_thr _⟩ ?_
  refine mb_l_cons ⟨mm_ald _ _, ml_ald _ _⟩ ?_
  refine mb_l_cons ⟨mm_getf _ _ _, ml_getf _ _ _⟩ ?_
  refine mb_l_cons ⟨mm_ild _ _, ml_ild _ _⟩ ?_
  refine mb_l_cons ⟨mm_callv _ _ _ _ _, ml_callv _ _ _ _ _⟩ ?_
  refine mb_l_cons ⟨mm_iret, ml_iret⟩ ?_
  exact mb_l_nil
theorem mz_X7_key : ∀ pc i, mb_look mc_X7_key pc = some i → mb_Mon i ∧ mb_Le i := by
  unfold mc_X7_key
  refine mb_l_cons ⟨mm_ald _ _, ml_ald _ _⟩ ?_
  refine mb_l_cons ⟨mm_ild _ _, ml_ild _ _⟩ ?_
  refine mb_l_cons ⟨mm_ild _ _, ml_ild _ _⟩ ?_
  refine mb_l_cons ⟨mm_callv _ _ _ _ _, ml_callv _ _ _ _ _⟩ ?_
  refine mb_l_cons ⟨mm_ast _ _, ml_ast _ _⟩ ?_
  refine mb_l_cons ⟨mm_ald _ _, ml_ald _ _⟩ ?_
  refine mb_l_cons ⟨mm_ifnn _ _, ml_ifnn _ _⟩ ?_
  refine mb_l_cons ⟨mm_thr _, ml_thr _⟩ ?_
  refine mb_l_cons ⟨mm_ild _ _, ml_ild _ _⟩ ?_
  refine mb_l_cons ⟨mm_calls _ _ _, ml_calls _ _ _⟩ ?_
  refine mb_l_cons ⟨mm_if1 _ _ _, ml_if1 _ _ _⟩ ?_
  refine mb_l_cons ⟨mm_ild _ _, ml_ild _ _⟩ ?_
  refine mb_l_cons ⟨mm_push _ _, ml_push _ _⟩ ?_
  refine mb_l_cons ⟨mm_if2 _ _ _, ml_if2 _ _ _⟩ ?_
  refine mb_l_cons ⟨mm_ild _ _, ml_ild _ _⟩ ?_
  refine mb_l_cons ⟨mm_push _ _, ml_push _ _⟩ ?_
  refine mb_l_cons ⟨mm_if2 _ _ _, ml_if2 _ _ _⟩ ?_
  refine mb_l_cons ⟨mm_ild _ _, ml_ild _ _⟩ ?_
  refine mb_l_cons ⟨mm_if1 _ _ _, ml_if1 _ _ _⟩ ?_
  refine mb_l_cons ⟨mm_ild _ _, ml_ild _ _⟩ ?_
  refine mb_l_cons ⟨mm_push _ _, ml_push _ _⟩ ?_
  refine mb_l_cons ⟨mm_if2 _ _ _, ml_if2 _ _ _⟩ ?_
  refine mb_l_cons ⟨mm_thr _, ml_thr _⟩ ?_
  refine mb_l_cons ⟨mm_ald _ _, ml_ald _ _⟩ ?_
  refine mb_l_cons ⟨mm_ild _ _, ml_ild _ _⟩ ?_
  refine mb_l_cons ⟨mm_callv _ _ _ _ _, ml_callv _ _ _ _ _⟩ ?_
  refine mb_l_cons ⟨mm_if1 _ _ _, ml_if1 _ _ _⟩ ?_
  refine mb_l_cons ⟨mm_thr _, ml_thr _⟩ ?_
  refine mb_l_cons ⟨mm_ald _ _, ml_ald _ _⟩ ?_
  refine mb_l_cons ⟨mm_ild _ _, ml_ild _ _⟩ ?_
  refine mb_l_cons ⟨mm_ild _ _, ml_ild _ _⟩ ?_
  refine mb_l_cons ⟨mm_ild _ _, ml_ild _ _⟩ ?_
  refine mb_l_cons ⟨mm_callv _ _ _ _ _, ml_callv _ _ _ _ _⟩ ?_
  refine mb_l_cons ⟨mm_ald _ _, ml_ald _ _⟩ ?_
  refine mb_l_cons ⟨mm_getf _ _ _, ml_getf _ _ _⟩ ?_
  refine mb_l_cons ⟨mm_iret, ml_iret⟩ ?_
  exact mb_l_nil
theorem mz_X7_unkey : ∀ pc i, mb_look mc_X7_unkey pc = some i → mb_Mon i ∧ mb_Le i := by
  unfold mc_X7_unkey
  refine mb_l_cons ⟨mm_ald _ _, ml_ald _ _⟩ ?_
  refine mb_l_cons ⟨mm_ild _ _, ml_ild _ _⟩ ?_
  refine mb_l_cons ⟨mm_ild _ _, ml_ild _ _⟩ ?_
  refine mb_l_cons ⟨mm_callv _ _ _ _ _, ml_callv _ _ _ _ _⟩ ?_
  refine mb_l_cons ⟨mm_ast _ _, ml_ast _ _⟩ ?_
  refine mb_l_cons ⟨mm_ald _ _, ml_ald _ _⟩ ?_
  refine mb_l_cons ⟨mm_ifnn _ _, ml_ifnn _ _⟩ ?_
  refine mb_l_cons ⟨mm_thr _, ml_thr _⟩ ?_
  refine mb_l_cons ⟨mm_ild _ _, ml_ild _ _⟩ ?_
  refine mb_l_cons ⟨mm_calls _ _ _, ml_calls _ _ _⟩ ?_
  refine mb_l_cons ⟨mm_if1 _ _ _, ml_if1 _ _ _⟩ ?_
  refine mb_l_cons ⟨mm_thr _, ml_thr _⟩ ?_
  refine mb_l_cons ⟨mm_ald _ _, ml_ald _ _⟩ ?_
  refine mb_l_cons ⟨mm_ild _ _, ml_ild _ _⟩ ?_
  refine mb_l_cons ⟨mm_callv _ _ _ _ _, ml_callv _ _ _ _ _⟩ ?_
  refine mb_l_cons ⟨mm_zret, ml_zret⟩ ?_
  exact mb_l_nil
theorem mz_X7_publish : ∀ pc i, mb_look mc_X7_publish pc = some i → mb_Mon i ∧ mb_Le i := by
  unfold mc_X7_publish
  refine mb_l_cons ⟨mm_ald _ _, ml_ald _ _⟩ ?_
  refine mb_l_cons ⟨mm_ild _ _, ml_ild _ _⟩ ?_
  refine mb_l_cons ⟨mm_callv _ _ _ _ _, ml_callv _ _ _ _ _⟩ ?_
  refine mb_l_cons ⟨mm_ast _ _, ml_ast _ _⟩ ?_
  refine mb_l_cons ⟨mm_ald _ _, ml_ald _ _⟩ ?_
  refine mb_l_cons ⟨mm_ifnn _ _, ml_ifnn _ _⟩ ?_
  refine mb_l_cons ⟨mm_thr _, ml_thr _⟩ ?_
  refine mb_l_cons ⟨mm_ald _ _, ml_ald _ _⟩ ?_
  refine mb_l_cons ⟨mm_getf _ _ _, ml_getf _ _ _⟩ ?_
  refine mb_l_cons ⟨mm_push _ _, ml_push _ _⟩ ?_
  refine mb_l_cons ⟨mm_if2 _ _ _, ml_if2 _ _ _⟩ ?_
  refine mb_l_cons ⟨mm_ald _ _, ml_ald _ _⟩ ?_
  refine mb_l_cons ⟨mm_getf _ _ _, ml_getf _ _ _⟩ ?_
  refine mb_l_cons ⟨mm_getf _ _ _, ml_getf _ _ _⟩ ?_
  refine mb_l_cons ⟨mm_if1 _ _ _, ml_if1 _ _ _⟩ ?_
  refine mb_l_cons ⟨mm_thr _, ml_thr _⟩ ?_
  refine mb_l_cons ⟨mm_ald _ _, ml_ald _ _⟩ ?_
  refine mb_l_cons ⟨mm_callv _ _ _ _ _, ml_callv _ _ _ _ _⟩ ?_
  refine mb_l_cons ⟨mm_iret, ml_iret⟩ ?_
  exact mb_l_nil
theorem mz_X7_pose : ∀ pc i, mb_look mc_X7_pose pc = some i → mb_Mon i ∧ mb_Le i := by
  unfold mc_X7_pose
  refine mb_l_cons ⟨mm_ald _ _, ml_ald _ _⟩ ?_
  refine mb_l_cons ⟨mm_ild _ _, ml_ild _ _⟩ ?_
  refine mb_l_cons ⟨mm_ild _ _, ml_ild _ _⟩ ?_
  refine mb_l_cons ⟨mm_callv _ _ _ _ _, ml_callv _ _ _ _ _⟩ ?_
  refine mb_l_cons ⟨mm_ast _ _, ml_ast _ _⟩ ?_
  refine mb_l_cons ⟨mm_ald _ _, ml_ald _ _⟩ ?_
  refine mb_l_cons ⟨mm_ifn _ _, ml_ifn _ _⟩ ?_
  refine mb_l_cons ⟨mm_ald _ _, ml_ald _ _⟩ ?_
  refine mb_l_cons ⟨mm_ild _ _, ml_ild _ _⟩ ?_
  refine mb_l_cons ⟨mm_callv _ _ _ _ _, ml_callv _ _ _ _ _⟩ ?_
  refine mb_l_cons ⟨mm_if1 _ _ _, ml_if1 _ _ _⟩ ?_
  refine mb_l_cons ⟨mm_thr _, ml_thr _⟩ ?_
  refine mb_l_cons ⟨mm_ild _ _, ml_ild _ _⟩ ?_
  refine mb_l_cons ⟨mm_calls _ _ _, ml_calls _ _ _⟩ ?_
  refine mb_l_cons ⟨mm_if1 _ _ _, ml_if1 _ _ _⟩ ?_
  refine mb_l_cons ⟨mm_thr _, ml_thr _⟩ ?_
  refine mb_l_cons ⟨mm_ald _ _, ml_ald _ _⟩ ?_
  refine mb_l_cons ⟨mm_ild _ _, ml_ild _ _⟩ ?_
  refine mb_l_cons ⟨mm_ild _ _, ml_ild _ _⟩ ?_
  refine mb_l_cons ⟨mm_callv _ _ _ _ _, ml_callv _ _ _ _ _⟩ ?_
  refine mb_l_cons ⟨mm_iret, ml_iret⟩ ?_
  exact mb_l_nil
theorem mz_X7_poseAnew : ∀ pc i, mb_look mc_X7_poseAnew pc = some i → mb_Mon i ∧ mb_Le i := by
  unfold mc_X7_poseAnew
  refine mb_l_cons ⟨mm_ald _ _, ml_ald _ _⟩ ?_
  refine mb_l_cons ⟨mm_ild _ _, ml_ild _ _⟩ ?_
  refine mb_l_cons ⟨mm_ild _ _, ml_ild _ _⟩ ?_
  refine mb_l_cons ⟨mm_callv _ _ _ _ _, ml_callv _ _ _ _ _⟩ ?_
  refine mb_l_cons ⟨mm_ast _ _, ml_ast _ _⟩ ?_
  refine mb_l_cons ⟨mm_ald _ _, ml_ald _ _⟩ ?_
  refine mb_l_cons ⟨mm_ifn _ _, ml_ifn _ _⟩ ?_
  refine mb_l_cons ⟨mm_ald _ _, ml_ald _ _⟩ ?_
  refine mb_l_cons ⟨mm_ild _ _, ml_ild _ _⟩ ?_
  refine mb_l_cons ⟨mm_callv _ _ _ _ _, ml_callv _ _ _ _ _⟩ ?_
  refine mb_l_cons ⟨mm_if1 _ _ _, ml_if1 _ _ _⟩ ?_
  refine mb_l_cons ⟨mm_thr _, ml_thr _⟩ ?_
  refine mb_l_cons ⟨mm_ild _ _, ml_ild _ _⟩ ?_
  refine mb_l_cons ⟨mm_calls _ _ _, ml_calls _ _ _⟩ ?_
  refine mb_l_cons ⟨mm_if1 _ _ _, ml_if1 _ _ _⟩ ?_
  refine mb_l_cons ⟨mm_thr _, ml_thr _⟩ ?_
  refine mb_l_cons ⟨mm_ald _ _, ml_ald _ _⟩ ?_
  refine mb_l_cons ⟨mm_ild _ _, ml_ild _ _⟩ ?_
  refine mb_l_cons ⟨mm_ild _ _, ml_ild _ _⟩ ?_
  refine mb_l_cons ⟨mm_callv _ _ _ _ _, ml_callv _ _ _ _ _⟩ ?_
  refine mb_l_cons ⟨mm_iret, ml_iret⟩ ?_
  exact mb_l_nil
theorem mz_X7_ofAsset : ∀ pc i, mb_look mc_X7_ofAsset pc = some i → mb_Mon i ∧ mb_Le i := by
  unfold mc_X7_ofAsset
  refine mb_l_cons ⟨mm_ald _ _, ml_ald _ _⟩ ?_
  refine mb_l_cons ⟨mm_ild _ _, ml_ild _ _⟩ ?_
  refine mb_l_cons ⟨mm_callv _ _ _ _ _, ml_callv _ _ _ _ _⟩ ?_
  refine mb_l_cons ⟨mm_ast _ _, ml_ast _ _⟩ ?_
  refine mb_l_cons ⟨mm_ald _ _, ml_ald _ _⟩ ?_
  refine mb_l_cons ⟨mm_ifnn _ _, ml_ifnn _ _⟩ ?_
  refine mb_l_cons ⟨mm_thr _, ml_thr _⟩ ?_
  refine mb_l_cons ⟨mm_ild _ _, ml_ild _ _⟩ ?_
  refine mb_l_cons ⟨mm_tsw _ _, ml_tsw _ _⟩ ?_
  refine mb_l_cons ⟨mm_ald _ _, ml_ald _ _⟩ ?_
  refine mb_l_cons ⟨mm_getf _ _ _, ml_getf _ _ _⟩ ?_
  refine mb_l_cons ⟨mm_getf _ _ _, ml_getf _ _ _⟩ ?_
  refine mb_l_cons ⟨mm_iret, ml_iret⟩ ?_
  refine mb_l_cons ⟨mm_ald _ _, ml_ald _ _⟩ ?_
  refine mb_l_cons ⟨mm_getf _ _ _, ml_getf _ _ _⟩ ?_
  refine mb_l_cons ⟨mm_iret, ml_iret⟩ ?_
  refine mb_l_cons ⟨mm_ald _ _, ml_ald _ _⟩ ?_
  refine mb_l_cons ⟨mm_ild _ _, ml_ild _ _⟩ ?_
  refine mb_l_cons ⟨mm_callv _ _ _ _ _, ml_callv _ _ _ _ _⟩ ?_
  refine mb_l_cons ⟨mm_iret, ml_iret⟩ ?_
  refine mb_l_cons ⟨mm_thr _, ml_thr _⟩ ?_
  exact mb_l_nil
theorem mz_X7_scene : ∀ pc i, mb_look mc_X7_scene pc = some i → mb_Mon i ∧ mb_Le i := by
  unfold mc_X7_scene
  refine mb_l_cons ⟨mm_ild _ _, ml_ild _ _⟩ ?_
  refine mb_l_cons ⟨mm_push _ _, ml_push _ _⟩ ?_
  refine mb_l_cons ⟨mm_if2 _ _ _, ml_if2 _ _ _⟩ ?_
  refine mb_l_cons ⟨mm_ild _ _, ml_ild _ _⟩ ?_
  refine mb_l_cons ⟨mm_push _ _, ml_push _ _⟩ ?_
  refine mb_l_cons ⟨mm_if2 _ _ _, ml_if2 _ _ _⟩ ?_
  refine mb_l_cons ⟨mm_thr _, ml_thr _⟩ ?_
  refine mb_l_cons ⟨mm_ald _ _, ml_ald _ _⟩ ?_
  refine mb_l_cons ⟨mm_getf _ _ _, ml_getf _ _ _⟩ ?_
  refine mb_l_cons ⟨mm_push _ _, ml_push _ _⟩ ?_
  refine mb_l_cons ⟨mm_if2 _ _ _, ml_if2 _ _ _⟩ ?_
  refine mb_l_cons ⟨mm_thr _, ml_thr _⟩ ?_
  refine mb_l_cons ⟨mm_ald _ _, ml_ald _ _⟩ ?_
  refine mb_l_cons ⟨mm_getf _ _ _, ml_getf _ _ _⟩ ?_
  refine mb_l_cons ⟨mm_ald _ _, ml_ald _ _⟩ ?_
  refine mb_l_cons ⟨mm_getf _ _ _, ml_getf _ _ _⟩ ?_
  refine mb_l_cons ⟨mm_new _ _ _, ml_new _ _ _⟩ ?_
  refine mb_l_cons ⟨mm_dup _, ml_dup _⟩ ?_
  refine mb_l_cons ⟨mm_ild _ _, ml_ild _ _⟩ ?_
  refine mb_l_cons ⟨mm_calli _ _ _, ml_calli _ _ _⟩ ?_
  refine mb_l_cons ⟨mm_aast _ _, ml_aast _ _⟩ ?_
  refine mb_l_cons ⟨mm_ald _ _, ml_ald _ _⟩ ?_
  refine mb_l_cons ⟨mm_dup _, ml_dup _⟩ ?_
  refine mb_l_cons ⟨mm_getf _ _ _, ml_getf _ _ _⟩ ?_
  refine mb_l_cons ⟨mm_dupx1 _, ml_dupx1 _⟩ ?_
  refine mb_l_cons ⟨mm_push _ _, ml_push _ _⟩ ?_
  refine mb_l_cons ⟨mm_iadd _, ml_iadd _⟩ ?_
  refine mb_l_cons ⟨mm_putf _ _ _ _, ml_putf _ _ _ _⟩ ?_
  refine mb_l_cons ⟨mm_iret, ml_iret⟩ ?_
  exact mb_l_nil
theorem mz_X7_cast : ∀ pc i, mb_look mc_X7_cast pc = some i → mb_Mon i ∧ mb_Le i := by
  unfold mc_X7_cast
  refine mb_l_cons ⟨mm_ald _ _, ml_ald _ _⟩ ?_
  refine mb_l_cons ⟨mm_ild _ _, ml_ild _ _⟩ ?_
  refine mb_l_cons ⟨mm_callv _ _ _ _ _, ml_callv _ _ _ _ _⟩ ?_
  refine mb_l_cons ⟨mm_ast _ _, ml_ast _ _⟩ ?_
  refine mb_l_cons ⟨mm_ald _ _, ml_ald _ _⟩ ?_
  refine mb_l_cons ⟨mm_ifn _ _, ml_ifn _ _⟩ ?_
  refine mb_l_cons ⟨mm_ald _ _, ml_ald _ _⟩ ?_
  refine mb_l_cons ⟨mm_ild _ _, ml_ild _ _⟩ ?_
  refine mb_l_cons ⟨mm_ild _ _, ml_ild _ _⟩ ?_
  refine mb_l_cons ⟨mm_callv _ _ _ _ _, ml_callv _ _ _ _ _⟩ ?_
  refine mb_l_cons ⟨mm_ifnn _ _, ml_ifnn _ _⟩ ?_
  refine mb_l_cons ⟨mm_thr _, ml_thr _⟩ ?_
  refine mb_l_cons ⟨mm_ild _ _, ml_ild _ _⟩ ?_
  refine mb_l_cons ⟨mm_calls _ _ _, ml_calls _ _ _⟩ ?_
  refine mb_l_cons ⟨mm_if1 _ _ _, ml_if1 _ _ _⟩ ?_
  refine mb_l_cons ⟨mm_ild _ _, ml_ild _ _⟩ ?_
  refine mb_l_cons ⟨mm_ild _ _, ml_ild _ _⟩ ?_
  refine mb_l_cons ⟨mm_if2 _ _ _, ml_if2 _ _ _⟩ ?_
  refine mb_l_cons ⟨mm_ild _ _, ml_ild _ _⟩ ?_
  refine mb_l_cons ⟨mm_calls _ _ _, ml_calls _ _ _⟩ ?_
  refine mb_l_cons ⟨mm_if1 _ _ _, ml_if1 _ _ _⟩ ?_
  refine mb_l_cons ⟨mm_thr _, ml_thr _⟩ ?_
  refine mb_l_cons ⟨mm_ald _ _, ml_ald _ _⟩ ?_
  refine mb_l_cons ⟨mm_ild _ _, ml_ild _ _⟩ ?_
  refine mb_l_cons ⟨mm_ild _ _, ml_ild _ _⟩ ?_
  refine mb_l_cons ⟨mm_ild _ _, ml_ild _ _⟩ ?_
  refine mb_l_cons ⟨mm_ild _ _, ml_ild _ _⟩ ?_
  refine mb_l_cons ⟨mm_callv _ _ _ _ _, ml_callv _ _ _ _ _⟩ ?_
  refine mb_l_cons ⟨mm_ald _ _, ml_ald _ _⟩ ?_
  refine mb_l_cons ⟨mm_getf _ _ _, ml_getf _ _ _⟩ ?_
  refine mb_l_cons ⟨mm_iret, ml_iret⟩ ?_
  exact mb_l_nil
theorem mz_X7_cut : ∀ pc i, mb_look mc_X7_cut pc = some i → mb_Mon i ∧ mb_Le i := by
  unfold mc_X7_cut
  refine mb_l_cons ⟨mm_ald _ _, ml_ald _ _⟩ ?_
  refine mb_l_cons ⟨mm_ild _ _, ml_ild _ _⟩ ?_
  refine mb_l_cons ⟨mm_callv _ _ _ _ _, ml_callv _ _ _ _ _⟩ ?_
  refine mb_l_cons ⟨mm_ast _ _, ml_ast _ _⟩ ?_
  refine mb_l_cons ⟨mm_ald _ _, ml_ald _ _⟩ ?_
  refine mb_l_cons ⟨mm_ifn _ _, ml_ifn _ _⟩ ?_
  refine mb_l_cons ⟨mm_ald _ _, ml_ald _ _⟩ ?_
  refine mb_l_cons ⟨mm_ild _ _, ml_ild _ _⟩ ?_
  refine mb_l_cons ⟨mm_callv _ _ _ _ _, ml_callv _ _ _ _ _⟩ ?_
  refine mb_l_cons ⟨mm_if1 _ _ _, ml_if1 _ _ _⟩ ?_
  refine mb_l_cons ⟨mm_thr _, ml_thr _⟩ ?_
  refine mb_l_cons ⟨mm_ild _ _, ml_ild _ _⟩ ?_
  refine mb_l_cons ⟨mm_push _ _, ml_push _ _⟩ ?_
  refine mb_l_cons ⟨mm_if2 _ _ _, ml_if2 _ _ _⟩ ?_
  refine mb_l_cons ⟨mm_thr _, ml_thr _⟩ ?_
  refine mb_l_cons ⟨mm_ild _ _, ml_ild _ _⟩ ?_
  refine mb_l_cons ⟨mm_ald _ _, ml_ald _ _⟩ ?_
  refine mb_l_cons ⟨mm_getf _ _ _, ml_getf _ _ _⟩ ?_
  refine mb_l_cons ⟨mm_ild _ _, ml_ild _ _⟩ ?_
  refine mb_l_cons ⟨mm_isub _, ml_isub _⟩ ?_
  refine mb_l_cons ⟨mm_if2 _ _ _, ml_if2 _ _ _⟩ ?_
  refine mb_l_cons ⟨mm_ild _ _, ml_ild _ _⟩ ?_
  refine mb_l_cons ⟨mm_ald _ _, ml_ald _ _⟩ ?_
  refine mb_l_cons ⟨mm_getf _ _ _, ml_getf _ _ _⟩ ?_
  refine mb_l_cons ⟨mm_if2 _ _ _, ml_if2 _ _ _⟩ ?_
  refine mb_l_cons ⟨mm_thr _, ml_thr _⟩ ?_
  refine mb_l_cons ⟨mm_ald _ _, ml_ald _ _⟩ ?_
  refine mb_l_cons ⟨mm_ild _ _, ml_ild _ _⟩ ?_
  refine mb_l_cons ⟨mm_ild _ _, ml_ild _ _⟩ ?_
  refine mb_l_cons ⟨mm_callv _ _ _ _ _, ml_callv _ _ _ _ _⟩ ?_
  refine mb_l_cons ⟨mm_ald _ _, ml_ald _ _⟩ ?_
  refine mb_l_cons ⟨mm_ild _ _, ml_ild _ _⟩ ?_
  refine mb_l_cons ⟨mm_ild _ _, ml_ild _ _⟩ ?_
  refine mb_l_cons ⟨mm_ild _ _, ml_ild _ _⟩ ?_
  refine mb_l_cons ⟨mm_ald _ _, ml_ald _ _⟩ ?_
  refine mb_l_cons ⟨mm_getf _ _ _, ml_getf _ _ _⟩ ?_
  refine mb_l_cons ⟨mm_callv _ _ _ _ _, ml_callv _ _ _ _ _⟩ ?_
  refine mb_l_cons ⟨mm_ald _ _, ml_ald _ _⟩ ?_
  refine mb_l_cons ⟨mm_getf _ _ _, ml_getf _ _ _⟩ ?_
  refine mb_l_cons ⟨mm_iret, ml_iret⟩ ?_
  exact mb_l_nil
theorem mz_X7_note : ∀ pc i, mb_look mc_X7_note pc = some i → mb_Mon i ∧ mb_Le i := by
  unfold mc_X7_note
  refine mb_l_cons ⟨mm_ald _ _, ml_ald _ _⟩ ?_
  refine mb_l_cons ⟨mm_ild _ _, ml_ild _ _⟩ ?_
  refine mb_l_cons ⟨mm_callv _ _ _ _ _, ml_callv _ _ _ _ _⟩ ?_
  refine mb_l_cons ⟨mm_ast _ _, ml_ast _ _⟩ ?_
  refine mb_l_cons ⟨mm_ald _ _, ml_ald _ _⟩ ?_
  refine mb_l_cons ⟨mm_ifn _ _, ml_ifn _ _⟩ ?_
  refine mb_l_cons ⟨mm_ald _ _, ml_ald _ _⟩ ?_
  refine mb_l_cons ⟨mm_ild _ _, ml_ild _ _⟩ ?_
  refine mb_l_cons ⟨mm_callv _ _ _ _ _, ml_callv _ _ _ _ _⟩ ?_
  refine mb_l_cons ⟨mm_if1 _ _ _, ml_if1 _ _ _⟩ ?_
  refine mb_l_cons ⟨mm_thr _, ml_thr _⟩ ?_
  refine mb_l_cons ⟨mm_ald _ _, ml_ald _ _⟩ ?_
  refine mb_l_cons ⟨mm_getf _ _ _, ml_getf _ _ _⟩ ?_
  refine mb_l_cons ⟨mm_push _ _, ml_push _ _⟩ ?_
  refine mb_l_cons ⟨mm_if2 _ _ _, ml_if2 _ _ _⟩ ?_
  refine mb_l_cons ⟨mm_thr _, ml_thr _⟩ ?_
  refine mb_l_cons ⟨mm_ald _ _, ml_ald _ _⟩ ?_
  refine mb_l_cons ⟨mm_getf _ _ _, ml_getf _ _ _⟩ ?_
  refine mb_l_cons ⟨mm_ald _ _, ml_ald _ _⟩ ?_
  refine mb_l_cons ⟨mm_getf _ _ _, ml_getf _ _ _⟩ ?_
  refine mb_l_cons ⟨mm_new _ _ _, ml_new _ _ _⟩ ?_
  refine mb_l_cons ⟨mm_dup _, ml_dup _⟩ ?_
  refine mb_l_cons ⟨mm_ild _ _, ml_ild _ _⟩ ?_
  refine mb_l_cons ⟨mm_ild _ _, ml_ild _ _⟩ ?_
  refine mb_l_cons ⟨mm_calli _ _ _, ml_calli _ _ _⟩ ?_
  refine mb_l_cons ⟨mm_aast _ _, ml_aast _ _⟩ ?_
  refine mb_l_cons ⟨mm_ald _ _, ml_ald _ _⟩ ?_
  refine mb_l_cons ⟨mm_dup _, ml_dup _⟩ ?_
  refine mb_l_cons ⟨mm_getf _ _ _, ml_getf _ _ _⟩ ?_
  refine mb_l_cons ⟨mm_dupx1 _, ml_dupx1 _⟩ ?_
  refine mb_l_cons ⟨mm_push _ _, ml_push _ _⟩ ?_
  refine mb_l_cons ⟨mm_iadd _, ml_iadd _⟩ ?_
  refine mb_l_cons ⟨mm_putf _ _ _ _, ml_putf _ _ _ _⟩ ?_
  refine mb_l_cons ⟨mm_iret, ml_iret⟩ ?_
  exact mb_l_nil
theorem mz_X7_settle : ∀ pc i, mb_look mc_X7_settle pc = some i → mb_Mon i ∧ mb_Le i := by
  unfold mc_X7_settle
  refine mb_l_cons ⟨mm_ald _ _, ml_ald _ _⟩ ?_
  refine mb_l_cons ⟨mm_ild _ _, ml_ild _ _⟩ ?_
  refine mb_l_cons ⟨mm_callv _ _ _ _ _, ml_callv _ _ _ _ _⟩ ?_
  refine mb_l_cons ⟨mm_ast _ _, ml_ast _ _⟩ ?_
  refine mb_l_cons ⟨mm_ald _ _, ml_ald _ _⟩ ?_
  refine mb_l_cons ⟨mm_ifnn _ _, ml_ifnn _ _⟩ ?_
  refine mb_l_cons ⟨mm_thr _, ml_thr _⟩ ?_
  refine mb_l_cons ⟨mm_ald _ _, ml_ald _ _⟩ ?_
  refine mb_l_cons ⟨mm_getf _ _ _, ml_getf _ _ _⟩ ?_
  refine mb_l_cons ⟨mm_if1 _ _ _, ml_if1 _ _ _⟩ ?_
  refine mb_l_cons ⟨mm_thr _, ml_thr _⟩ ?_
  refine mb_l_cons ⟨mm_ald _ _, ml_ald _ _⟩ ?_
  refine mb_l_cons ⟨mm_push _ _, ml_push _ _⟩ ?_
  refine mb_l_cons ⟨mm_putf _ _ _ _, ml_putf _ _ _ _⟩ ?_
  refine mb_l_cons ⟨mm_ald _ _, ml_ald _ _⟩ ?_
  refine mb_l_cons ⟨mm_ald _ _, ml_ald _ _⟩ ?_
  refine mb_l_cons ⟨mm_getf _ _ _, ml_getf _ _ _⟩ ?_
  refine mb_l_cons ⟨mm_callv _ _ _ _ _, ml_callv _ _ _ _ _⟩ ?_
  refine mb_l_cons ⟨mm_iret, ml_iret⟩ ?_
  exact mb_l_nil
theorem mz_X7_ofNote : ∀ pc i, mb_look mc_X7_ofNote pc = some i → mb_Mon i ∧ mb_Le i := by
  unfold mc_X7_ofNote
  refine mb_l_cons ⟨mm_ald _ _, ml_ald _ _⟩ ?_
  refine mb_l_cons ⟨mm_ild _ _, ml_ild _ _⟩ ?_
  refine mb_l_cons ⟨mm_callv _ _ _ _ _, ml_callv _ _ _ _ _⟩ ?_
  refine mb_l_cons ⟨mm_ast _ _, ml_ast _ _⟩ ?_
  refine mb_l_cons ⟨mm_ald _ _, ml_ald _ _⟩ ?_
  refine mb_l_cons ⟨mm_ifnn _ _, ml_ifnn _ _⟩ ?_
  refine mb_l_cons ⟨mm_thr _, ml_thr _⟩ ?_
  refine mb_l_cons ⟨mm_ild _ _, ml_ild _ _⟩ ?_
  refine mb_l_cons ⟨mm_tsw _ _, ml_tsw _ _⟩ ?_
  refine mb_l_cons ⟨mm_ald _ _, ml_ald _ _⟩ ?_
  refine mb_l_cons ⟨mm_getf _ _ _, ml_getf _ _ _⟩ ?_
  refine mb_l_cons ⟨mm_iret, ml_iret⟩ ?_
  refine mb_l_cons ⟨mm_ald _ _, ml_ald _ _⟩ ?_
  refine mb_l_cons ⟨mm_getf _ _ _, ml_getf _ _ _⟩ ?_
  refine mb_l_cons ⟨mm_iret, ml_iret⟩ ?_
  refine mb_l_cons ⟨mm_ald _ _, ml_ald _ _⟩ ?_
  refine mb_l_cons ⟨mm_getf _ _ _, ml_getf _ _ _⟩ ?_
  refine mb_l_cons ⟨mm_if1 _ _ _, ml_if1 _ _ _⟩ ?_
  refine mb_l_cons ⟨mm_push _ _, ml_push _ _⟩ ?_
  refine mb_l_cons ⟨mm_go _, ml_go _⟩ ?_
  refine mb_l_cons ⟨mm_push _ _, ml_push _ _⟩ ?_
  refine mb_l_cons ⟨mm_iret, ml_iret⟩ ?_
  refine mb_l_cons ⟨mm_ald _ _, ml_ald _ _⟩ ?_
  refine mb_l_cons ⟨mm_getf _ _ _, ml_getf _ _ _⟩ ?_
  refine mb_l_cons ⟨mm_iret, ml_iret⟩ ?_
  refine mb_l_cons ⟨mm_thr _, ml_thr _⟩ ?_
  exact mb_l_nil
theorem mz_X7_render : ∀ pc i, mb_look mc_X7_render pc = some i → mb_Mon i ∧ mb_Le i := by
  unfold mc_X7_render
  refine mb_l_cons ⟨mm_ald _ _, ml_ald _ _⟩ ?_
  refine mb_l_cons ⟨mm_ild _ _, ml_ild _ _⟩ ?_
  refine mb_l_cons ⟨mm_callv _ _ _ _ _, ml_callv _ _ _ _ _⟩ ?_
  refine mb_l_cons ⟨mm_ast _ _, ml_ast _ _⟩ ?_
  refine mb_l_cons ⟨mm_ald _ _, ml_ald _ _⟩ ?_
  refine mb_l_cons ⟨mm_ifnn _ _, ml_ifnn _ _⟩ ?_
  refine mb_l_cons ⟨mm_thr _, ml_thr _⟩ ?_
  refine mb_l_cons ⟨mm_ald _ _, ml_ald _ _⟩ ?_
  refine mb_l_cons ⟨mm_getf _ _ _, ml_getf _ _ _⟩ ?_
  refine mb_l_cons ⟨mm_ist _ _, ml_ist _ _⟩ ?_
  refine mb_l_cons ⟨mm_push _ _, ml_push _ _⟩ ?_
  refine mb_l_cons ⟨mm_ist _ _, ml_ist _ _⟩ ?_
  refine mb_l_cons ⟨mm_ild _ _, ml_ild _ _⟩ ?_
  refine mb_l_cons ⟨mm_ald _ _, ml_ald _ _⟩ ?_
  refine mb_l_cons ⟨mm_getf _ _ _, ml_getf _ _ _⟩ ?_
  refine mb_l_cons ⟨mm_if2 _ _ _, ml_if2 _ _ _⟩ ?_
  refine mb_l_cons ⟨mm_ald _ _, ml_ald _ _⟩ ?_
  refine mb_l_cons ⟨mm_ild _ _, ml_ild _ _⟩ ?_
  refine mb_l_cons ⟨mm_callv _ _ _ _ _, ml_callv _ _ _ _ _⟩ ?_
  refine mb_l_cons ⟨mm_ast _ _, ml_ast _ _⟩ ?_
  refine mb_l_cons ⟨mm_ald _ _, ml_ald _ _⟩ ?_
  refine mb_l_cons ⟨mm_ifn _ _, ml_ifn _ _⟩ ?_
  refine mb_l_cons ⟨mm_ald _ _, ml_ald _ _⟩ ?_
  refine mb_l_cons ⟨mm_ald _ _, ml_ald _ _⟩ ?_
  refine mb_l_cons ⟨mm_ald _ _, ml_ald _ _⟩ ?_
  refine mb_l_cons ⟨mm_callv _ _ _ _ _, ml_callv _ _ _ _ _⟩ ?_
  refine mb_l_cons ⟨mm_if1 _ _ _, ml_if1 _ _ _⟩ ?_
  refine mb_l_cons ⟨mm_ald _ _, ml_ald _ _⟩ ?_
  refine mb_l_cons ⟨mm_ald _ _, ml_ald _ _⟩ ?_
  refine mb_l_cons ⟨mm_callv _ _ _ _ _, ml_callv _ _ _ _ _⟩ ?_
  refine mb_l_cons ⟨mm_ald _ _, ml_ald _ _⟩ ?_
  refine mb_l_cons ⟨mm_ald _ _, ml_ald _ _⟩ ?_
  refine mb_l_cons ⟨mm_ald _ _, ml_ald _ _⟩ ?_
  refine mb_l_cons ⟨mm_callv _ _ _ _ _, ml_callv _ _ _ _ _⟩ ?_
  refine mb_l_cons ⟨mm_iinc _ _ _, ml_iinc _ _ _⟩ ?_
  refine mb_l_cons ⟨mm_go _, ml_go _⟩ ?_
  refine mb_l_cons ⟨mm_ald _ _, ml_ald _ _⟩ ?_
  refine mb_l_cons ⟨mm_getf _ _ _, ml_getf _ _ _⟩ ?_
  refine mb_l_cons ⟨mm_ild _ _, ml_ild _ _⟩ ?_
  refine mb_l_cons ⟨mm_isub _, ml_isub _⟩ ?_
  refine mb_l_cons ⟨mm_iret, ml_iret⟩ ?_
  exact mb_l_nil
theorem mz_X7_renderOne : ∀ pc i, mb_look mc_X7_renderOne pc = some i → mb_Mon i ∧ mb_Le i := by
  unfold mc_X7_renderOne
  refine mb_l_cons ⟨mm_ald _ _, ml_ald _ _⟩ ?_
  refine mb_l_cons ⟨mm_ild _ _, ml_ild _ _⟩ ?_
  refine mb_l_cons ⟨mm_callv _ _ _ _ _, ml_callv _ _ _ _ _⟩ ?_
  refine mb_l_cons ⟨mm_ast _ _, ml_ast _ _⟩ ?_
  refine mb_l_cons ⟨mm_ald _ _, ml_ald _ _⟩ ?_
  refine mb_l_cons ⟨mm_ifnn _ _, ml_ifnn _ _⟩ ?_
  refine mb_l_cons ⟨mm_push _ _, ml_push _ _⟩ ?_
  refine mb_l_cons ⟨mm_go _, ml_go _⟩ ?_
  refine mb_l_cons ⟨mm_ald _ _, ml_ald _ _⟩ ?_
  refine mb_l_cons ⟨mm_ild _ _, ml_ild _ _⟩ ?_
  refine mb_l_cons ⟨mm_callv _ _ _ _ _, ml_callv _ _ _ _ _⟩ ?_
  refine mb_l_cons ⟨mm_ast _ _, ml_ast _ _⟩ ?_
  refine mb_l_cons ⟨mm_ald _ _, ml_ald _ _⟩ ?_
  refine mb_l_cons ⟨mm_ifn _ _, ml_ifn _ _⟩ ?_
  refine mb_l_cons ⟨mm_ald _ _, ml_ald _ _⟩ ?_
  refine mb_l_cons ⟨mm_ifnn _ _, ml_ifnn _ _⟩ ?_
  refine mb_l_cons ⟨mm_thr _, ml_thr _⟩ ?_
  refine mb_l_cons ⟨mm_ald _ _, ml_ald _ _⟩ ?_
  refine mb_l_cons ⟨mm_ald _ _, ml_ald _ _⟩ ?_
  refine mb_l_cons ⟨mm_ald _ _, ml_ald _ _⟩ ?_
  refine mb_l_cons ⟨mm_callv _ _ _ _ _, ml_callv _ _ _ _ _⟩ ?_
  refine mb_l_cons ⟨mm_ist _ _, ml_ist _ _⟩ ?_
  refine mb_l_cons ⟨mm_ald _ _, ml_ald _ _⟩ ?_
  refine mb_l_cons ⟨mm_ald _ _, ml_ald _ _⟩ ?_
  refine mb_l_cons ⟨mm_callv _ _ _ _ _, ml_callv _ _ _ _ _⟩ ?_
  refine mb_l_cons ⟨mm_ald _ _, ml_ald _ _⟩ ?_
  refine mb_l_cons ⟨mm_ald _ _, ml_ald _ _⟩ ?_
  refine mb_l_cons ⟨mm_ald _ _, ml_ald _ _⟩ ?_
  refine mb_l_cons ⟨mm_callv _ _ _ _ _, ml_callv _ _ _ _ _⟩ ?_
  refine mb_l_cons ⟨mm_ild _ _, ml_ild _ _⟩ ?_
  refine mb_l_cons ⟨mm_zret, ml_zret⟩ ?_
  exact mb_l_nil
theorem mz_X7_needs : ∀ pc i, mb_look mc_X7_needs pc = some i → mb_Mon i ∧ mb_Le i := by
  unfold mc_X7_needs
  refine mb_l_cons ⟨mm_ald _ _, ml_ald _ _⟩ ?_
  refine mb_l_cons ⟨mm_ild _ _, ml_ild _ _⟩ ?_
  refine mb_l_cons ⟨mm_callv _ _ _ _ _, ml_callv _ _ _ _ _⟩ ?_
  refine mb_l_cons ⟨mm_ast _ _, ml_ast _ _⟩ ?_
  refine mb_l_cons ⟨mm_ald _ _, ml_ald _ _⟩ ?_
  refine mb_l_cons ⟨mm_ifnn _ _, ml_ifnn _ _⟩ ?_
  refine mb_l_cons ⟨mm_thr _, ml_thr _⟩ ?_
  refine mb_l_cons ⟨mm_ald _ _, ml_ald _ _⟩ ?_
  refine mb_l_cons ⟨mm_ald _ _, ml_ald _ _⟩ ?_
  refine mb_l_cons ⟨mm_callv _ _ _ _ _, ml_callv _ _ _ _ _⟩ ?_
  refine mb_l_cons ⟨mm_iret, ml_iret⟩ ?_
  exact mb_l_nil
theorem mz_X7_mixes : ∀ pc i, mb_look mc_X7_mixes pc = some i → mb_Mon i ∧ mb_Le i := by
  unfold mc_X7_mixes
  refine mb_l_cons ⟨mm_ald _ _, ml_ald _ _⟩ ?_
  refine mb_l_cons ⟨mm_ild _ _, ml_ild _ _⟩ ?_
  refine mb_l_cons ⟨mm_callv _ _ _ _ _, ml_callv _ _ _ _ _⟩ ?_
  refine mb_l_cons ⟨mm_ast _ _, ml_ast _ _⟩ ?_
  refine mb_l_cons ⟨mm_ald _ _, ml_ald _ _⟩ ?_
  refine mb_l_cons ⟨mm_ifnn _ _, ml_ifnn _ _⟩ ?_
  refine mb_l_cons ⟨mm_thr _, ml_thr _⟩ ?_
  refine mb_l_cons ⟨mm_push _ _, ml_push _ _⟩ ?_
  refine mb_l_cons ⟨mm_ist _ _, ml_ist _ _⟩ ?_
  refine mb_l_cons ⟨mm_push _ _, ml_push _ _⟩ ?_
  refine mb_l_cons ⟨mm_ist _ _, ml_ist _ _⟩ ?_
  refine mb_l_cons ⟨mm_ild _ _, ml_ild _ _⟩ ?_
  refine mb_l_cons ⟨mm_ald _ _, ml_ald _ _⟩ ?_
  refine mb_l_cons ⟨mm_getf _ _ _, ml_getf _ _ _⟩ ?_
  refine mb_l_cons ⟨mm_if2 _ _ _, ml_if2 _ _ _⟩ ?_
  refine mb_l_cons ⟨mm_ald _ _, ml_ald _ _⟩ ?_
  refine mb_l_cons ⟨mm_ild _ _, ml_ild _ _⟩ ?_
  refine mb_l_cons ⟨mm_callv _ _ _ _ _, ml_callv _ _ _ _ _⟩ ?_
  refine mb_l_cons ⟨mm_if1 _ _ _, ml_if1 _ _ _⟩ ?_
  refine mb_l_cons ⟨mm_ald _ _, ml_ald _ _⟩ ?_
  refine mb_l_cons ⟨mm_ild _ _, ml_ild _ _⟩ ?_
  refine mb_l_cons ⟨mm_callv _ _ _ _ _, ml_callv _ _ _ _ _⟩ ?_
  refine mb_l_cons ⟨mm_if1 _ _ _, ml_if1 _ _ _⟩ ?_
  refine mb_l_cons ⟨mm_iinc _ _ _, ml_iinc _ _ _⟩ ?_
  refine mb_l_cons ⟨mm_iinc _ _ _, ml_iinc _ _ _⟩ ?_
  refine mb_l_cons ⟨mm_go _, ml_go _⟩ ?_
  refine mb_l_cons ⟨mm_ild _ _, ml_ild _ _⟩ ?_
  refine mb_l_cons ⟨mm_iret, ml_iret⟩ ?_
  exact mb_l_nil
theorem mz_X7_ofFrame : ∀ pc i, mb_look mc_X7_ofFrame pc = some i → mb_Mon i ∧ mb_Le i := by
  unfold mc_X7_ofFrame
  refine mb_l_cons ⟨mm_ald _ _, ml_ald _ _⟩ ?_
  refine mb_l_cons ⟨mm_ild _ _, ml_ild _ _⟩ ?_
  refine mb_l_cons ⟨mm_callv _ _ _ _ _, ml_callv _ _ _ _ _⟩ ?_
  refine mb_l_cons ⟨mm_ast _ _, ml_ast _ _⟩ ?_
  refine mb_l_cons ⟨mm_ald _ _, ml_ald _ _⟩ ?_
  refine mb_l_cons ⟨mm_ifnn _ _, ml_ifnn _ _⟩ ?_
  refine mb_l_cons ⟨mm_push _ _, ml_push _ _⟩ ?_
  refine mb_l_cons ⟨mm_go _, ml_go _⟩ ?_
  refine mb_l_cons ⟨mm_ald _ _, ml_ald _ _⟩ ?_
  refine mb_l_cons ⟨mm_ild _ _, ml_ild _ _⟩ ?_
  refine mb_l_cons ⟨mm_callv _ _ _ _ _, ml_callv _ _ _ _ _⟩ ?_
  refine mb_l_cons ⟨mm_ast _ _, ml_ast _ _⟩ ?_
  refine mb_l_cons ⟨mm_ald _ _, ml_ald _ _⟩ ?_
  refine mb_l_cons ⟨mm_ifn _ _, ml_ifn _ _⟩ ?_
  refine mb_l_cons ⟨mm_ald _ _, ml_ald _ _⟩ ?_
  refine mb_l_cons ⟨mm_ifnn _ _, ml_ifnn _ _⟩ ?_
  refine mb_l_cons ⟨mm_thr _, ml_thr _⟩ ?_
  refine mb_l_cons ⟨mm_ild _ _, ml_ild _ _⟩ ?_
  refine mb_l_cons ⟨mm_tsw _ _, ml_tsw _ _⟩ ?_
  refine mb_l_cons ⟨mm_ald _ _, ml_ald _ _⟩ ?_
  refine mb_l_cons ⟨mm_getf _ _ _, ml_getf _ _ _⟩ ?_
  refine mb_l_cons ⟨mm_iret, ml_iret⟩ ?_
  refine mb_l_cons ⟨mm_ald _ _, ml_ald _ _⟩ ?_
  refine mb_l_cons ⟨mm_getf _ _ _, ml_getf _ _ _⟩ ?_
  refine mb_l_cons ⟨mm_if1 _ _ _, ml_if1 _ _ _⟩ ?_
  refine mb_l_cons ⟨mm_push _ _, ml_push _ _⟩ ?_
  refine mb_l_cons ⟨mm_go _, ml_go _⟩ ?_
  refine mb_l_cons ⟨mm_push _ _, ml_push _ _⟩ ?_
  refine mb_l_cons ⟨mm_iret, ml_iret⟩ ?_
  refine mb_l_cons ⟨mm_ald _ _, ml_ald _ _⟩ ?_
  refine mb_l_cons ⟨mm_ald _ _, ml_ald _ _⟩ ?_
  refine mb_l_cons ⟨mm_ald _ _, ml_ald _ _⟩ ?_
  refine mb_l_cons ⟨mm_callv _ _ _ _ _, ml_callv _ _ _ _ _⟩ ?_
  refine mb_l_cons ⟨mm_if1 _ _ _, ml_if1 _ _ _⟩ ?_
  refine mb_l_cons ⟨mm_push _ _, ml_push _ _⟩ ?_
  refine mb_l_cons ⟨mm_go _, ml_go _⟩ ?_
  refine mb_l_cons ⟨mm_push _ _, ml_push _ _⟩ ?_
  refine mb_l_cons ⟨mm_iret, ml_iret⟩ ?_
  refine mb_l_cons ⟨mm_ald _ _, ml_ald _ _⟩ ?_
  refine mb_l_cons ⟨mm_ald _ _, ml_ald _ _⟩ ?_
  refine mb_l_cons ⟨mm_ald _ _, ml_ald _ _⟩ ?_
  refine mb_l_cons ⟨mm_callv _ _ _ _ _, ml_callv _ _ _ _ _⟩ ?_
  refine mb_l_cons ⟨mm_iret, ml_iret⟩ ?_
  refine mb_l_cons ⟨mm_ald _ _, ml_ald _ _⟩ ?_
  refine mb_l_cons ⟨mm_ild _ _, ml_ild _ _⟩ ?_
  refine mb_l_cons ⟨mm_ild _ _, ml_ild _ _⟩ ?_
  refine mb_l_cons ⟨mm_callv _ _ _ _ _, ml_callv _ _ _ _ _⟩ ?_
  refine mb_l_cons ⟨mm_iret, ml_iret⟩ ?_
  refine mb_l_cons ⟨mm_ald _ _, ml_ald _ _⟩ ?_
  refine mb_l_cons ⟨mm_getf _ _ _, ml_getf _ _ _⟩ ?_
  refine mb_l_cons ⟨mm_iret, ml_iret⟩ ?_
  refine mb_l_cons ⟨mm_thr _, ml_thr _⟩ ?_
  exact mb_l_nil
theorem mz_X7_kept : ∀ pc i, mb_look mc_X7_kept pc = some i → mb_Mon i ∧ mb_Le i := by
  unfold mc_X7_kept
  refine mb_l_cons ⟨mm_ald _ _, ml_ald _ _⟩ ?_
  refine mb_l_cons ⟨mm_ild _ _, ml_ild _ _⟩ ?_
  refine mb_l_cons ⟨mm_callv _ _ _ _ _, ml_callv _ _ _ _ _⟩ ?_
  refine mb_l_cons ⟨mm_ast _ _, ml_ast _ _⟩ ?_
  refine mb_l_cons ⟨mm_ald _ _, ml_ald _ _⟩ ?_
  refine mb_l_cons ⟨mm_ifnn _ _, ml_ifnn _ _⟩ ?_
  refine mb_l_cons ⟨mm_push _ _, ml_push _ _⟩ ?_
  refine mb_l_cons ⟨mm_go _, ml_go _⟩ ?_
  refine mb_l_cons ⟨mm_ald _ _, ml_ald _ _⟩ ?_
  refine mb_l_cons ⟨mm_ild _ _, ml_ild _ _⟩ ?_
  refine mb_l_cons ⟨mm_callv _ _ _ _ _, ml_callv _ _ _ _ _⟩ ?_
  refine mb_l_cons ⟨mm_ast _ _, ml_ast _ _⟩ ?_
  refine mb_l_cons ⟨mm_ald _ _, ml_ald _ _⟩ ?_
  refine mb_l_cons ⟨mm_ifn _ _, ml_ifn _ _⟩ ?_
  refine mb_l_cons ⟨mm_ald _ _, ml_ald _ _⟩ ?_
  refine mb_l_cons ⟨mm_ild _ _, ml_ild _ _⟩ ?_
  refine mb_l_cons ⟨mm_callv _ _ _ _ _, ml_callv _ _ _ _ _⟩ ?_
  refine mb_l_cons ⟨mm_ifnn _ _, ml_ifnn _ _⟩ ?_
  refine mb_l_cons ⟨mm_thr _, ml_thr _⟩ ?_
  refine mb_l_cons ⟨mm_ald _ _, ml_ald _ _⟩ ?_
  refine mb_l_cons ⟨mm_ild _ _, ml_ild _ _⟩ ?_
  refine mb_l_cons ⟨mm_callv _ _ _ _ _, ml_callv _ _ _ _ _⟩ ?_
  refine mb_l_cons ⟨mm_iret, ml_iret⟩ ?_
  exact mb_l_nil
theorem mz_X7_count : ∀ pc i, mb_look mc_X7_count pc = some i → mb_Mon i ∧ mb_Le i := by
  unfold mc_X7_count
  refine mb_l_cons ⟨mm_ild _ _, ml_ild _ _⟩ ?_
  refine mb_l_cons ⟨mm_tsw _ _, ml_tsw _ _⟩ ?_
  refine mb_l_cons ⟨mm_ald _ _, ml_ald _ _⟩ ?_
  refine mb_l_cons ⟨mm_getf _ _ _, ml_getf _ _ _⟩ ?_
  refine mb_l_cons ⟨mm_iret, ml_iret⟩ ?_
  refine mb_l_cons ⟨mm_ald _ _, ml_ald _ _⟩ ?_
  refine mb_l_cons ⟨mm_callv _ _ _ _ _, ml_callv _ _ _ _ _⟩ ?_
  refine mb_l_cons ⟨mm_iret, ml_iret⟩ ?_
  refine mb_l_cons ⟨mm_ald _ _, ml_ald _ _⟩ ?_
  refine mb_l_cons ⟨mm_getf _ _ _, ml_getf _ _ _⟩ ?_
  refine mb_l_cons ⟨mm_iret, ml_iret⟩ ?_
  refine mb_l_cons ⟨mm_ald _ _, ml_ald _ _⟩ ?_
  refine mb_l_cons ⟨mm_callv _ _ _ _ _, ml_callv _ _ _ _ _⟩ ?_
  refine mb_l_cons ⟨mm_iret, ml_iret⟩ ?_
  refine mb_l_cons ⟨mm_ald _ _, ml_ald _ _⟩ ?_
  refine mb_l_cons ⟨mm_callv _ _ _ _ _, ml_callv _ _ _ _ _⟩ ?_
  refine mb_l_cons ⟨mm_iret, ml_iret⟩ ?_
  refine mb_l_cons ⟨mm_ald _ _, ml_ald _ _⟩ ?_
  refine mb_l_cons ⟨mm_getf _ _ _, ml_getf _ _ _⟩ ?_
  refine mb_l_cons ⟨mm_iret, ml_iret⟩ ?_
  refine mb_l_cons ⟨mm_ald _ _, ml_ald _ _⟩ ?_
  refine mb_l_cons ⟨mm_callv _ _ _ _ _, ml_callv _ _ _ _ _⟩ ?_
  refine mb_l_cons ⟨mm_iret, ml_iret⟩ ?_
  refine mb_l_cons ⟨mm_thr _, ml_thr _⟩ ?_
  exact mb_l_nil
theorem mz_X7_assetAt : ∀ pc i, mb_look mc_X7_assetAt pc = some i → mb_Mon i ∧ mb_Le i := by
  unfold mc_X7_assetAt
  refine mb_l_cons ⟨mm_ild _ _, ml_ild _ _⟩ ?_
  refine mb_l_cons ⟨mm_if1 _ _ _, ml_if1 _ _ _⟩ ?_
  refine mb_l_cons ⟨mm_ild _ _, ml_ild _ _⟩ ?_
  refine mb_l_cons ⟨mm_ald _ _, ml_ald _ _⟩ ?_
  refine mb_l_cons ⟨mm_getf _ _ _, ml_getf _ _ _⟩ ?_
  refine mb_l_cons ⟨mm_if2 _ _ _, ml_if2 _ _ _⟩ ?_
  refine mb_l_cons ⟨mm_push _ _, ml_push _ _⟩ ?_
  refine mb_l_cons ⟨mm_go _, ml_go _⟩ ?_
  refine mb_l_cons ⟨mm_ald _ _, ml_ald _ _⟩ ?_
  refine mb_l_cons ⟨mm_getf _ _ _, ml_getf _ _ _⟩ ?_
  refine mb_l_cons ⟨mm_ild _ _, ml_ild _ _⟩ ?_
  refine mb_l_cons ⟨mm_aald _, ml_aald _⟩ ?_
  refine mb_l_cons ⟨mm_aret, ml_aret⟩ ?_
  exact mb_l_nil
theorem mz_X7_sceneAt : ∀ pc i, mb_look mc_X7_sceneAt pc = some i → mb_Mon i ∧ mb_Le i := by
  unfold mc_X7_sceneAt
  refine mb_l_cons ⟨mm_ild _ _, ml_ild _ _⟩ ?_
  refine mb_l_cons ⟨mm_if1 _ _ _, ml_if1 _ _ _⟩ ?_
  refine mb_l_cons ⟨mm_ild _ _, ml_ild _ _⟩ ?_
  refine mb_l_cons ⟨mm_ald _ _, ml_ald _ _⟩ ?_
  refine mb_l_cons ⟨mm_getf _ _ _, ml_getf _ _ _⟩ ?_
  refine mb_l_cons ⟨mm_if2 _ _ _, ml_if2 _ _ _⟩ ?_
  refine mb_l_cons ⟨mm_push _ _, ml_push _ _⟩ ?_
  refine mb_l_cons ⟨mm_go _, ml_go _⟩ ?_
  refine mb_l_cons ⟨mm_ald _ _, ml_ald _ _⟩ ?_
  refine mb_l_cons ⟨mm_getf _ _ _, ml_getf _ _ _⟩ ?_
  refine mb_l_cons ⟨mm_ild _ _, ml_ild _ _⟩ ?_
  refine mb_l_cons ⟨mm_aald _, ml_aald _⟩ ?_
  refine mb_l_cons ⟨mm_aret, ml_aret⟩ ?_
  exact mb_l_nil
theorem mz_X7_noteAt : ∀ pc i, mb_look mc_X7_noteAt pc = some i → mb_Mon i ∧ mb_Le i := by
  unfold mc_X7_noteAt
  refine mb_l_cons ⟨mm_ild _ _, ml_ild _ _⟩ ?_
  refine mb_l_cons ⟨mm_if1 _ _ _, ml_if1 _ _ _⟩ ?_
  refine mb_l_cons ⟨mm_ild _ _, ml_ild _ _⟩ ?_
  refine mb_l_cons ⟨mm_ald _ _, ml_ald _ _⟩ ?_
  refine mb_l_cons ⟨mm_getf _ _ _, ml_getf _ _ _⟩ ?_
  refine mb_l_cons ⟨mm_if2 _ _ _, ml_if2 _ _ _⟩ ?_
  refine mb_l_cons ⟨mm_push _ _, ml_push _ _⟩ ?_
  refine mb_l_cons ⟨mm_go _, ml_go _⟩ ?_
  refine mb_l_cons ⟨mm_ald _ _, ml_ald _ _⟩ ?_
  refine mb_l_cons ⟨mm_getf _ _ _, ml_getf _ _ _⟩ ?_
  refine mb_l_cons ⟨mm_ild _ _, ml_ild _ _⟩ ?_
  refine mb_l_cons ⟨mm_aald _, ml_aald _⟩ ?_
  refine mb_l_cons ⟨mm_aret, ml_aret⟩ ?_
  exact mb_l_nil
theorem mz_X7_draftCurve : ∀ pc i, mb_look mc_X7_draftCurve pc = some i → mb_Mon i ∧ mb_Le i := by
  unfold mc_X7_draftCurve
  refine mb_l_cons ⟨mm_ald _ _, ml_ald _ _⟩ ?_
  refine mb_l_cons ⟨mm_ild _ _, ml_ild _ _⟩ ?_
  refine mb_l_cons ⟨mm_callv _ _ _ _ _, ml_callv _ _ _ _ _⟩ ?_
  refine mb_l_cons ⟨mm_ast _ _, ml_ast _ _⟩ ?_
  refine mb_l_cons ⟨mm_ald _ _, ml_ald _ _⟩ ?_
  refine mb_l_cons ⟨mm_ifnn _ _, ml_ifnn _ _⟩ ?_
  refine mb_l_cons ⟨mm_push _ _, ml_push _ _⟩ ?_
  refine mb_l_cons ⟨mm_go _, ml_go _⟩ ?_
  refine mb_l_cons ⟨mm_ald _ _, ml_ald _ _⟩ ?_
  refine mb_l_cons ⟨mm_getf _ _ _, ml_getf _ _ _⟩ ?_
  refine mb_l_cons ⟨mm_ild _ _, ml_ild _ _⟩ ?_
  refine mb_l_cons ⟨mm_callv _ _ _ _ _, ml_callv _ _ _ _ _⟩ ?_
  refine mb_l_cons ⟨mm_aret, ml_aret⟩ ?_
  exact mb_l_nil
theorem mz_X7_rigOf : ∀ pc i, mb_look mc_X7_rigOf pc = some i → mb_Mon i ∧ mb_Le i := by
  unfold mc_X7_rigOf
  refine mb_l_cons ⟨mm_ald _ _, ml_ald _ _⟩ ?_
  refine mb_l_cons ⟨mm_ild _ _, ml_ild _ _⟩ ?_
  refine mb_l_cons ⟨mm_callv _ _ _ _ _, ml_callv _ _ _ _ _⟩ ?_
  refine mb_l_cons ⟨mm_ast _ _, ml_ast _ _⟩ ?_
  refine mb_l_cons ⟨mm_ald _ _, ml_ald _ _⟩ ?_
  refine mb_l_cons ⟨mm_ifnn _ _, ml_ifnn _ _⟩ ?_
  refine mb_l_cons ⟨mm_push _ _, ml_push _ _⟩ ?_
  refine mb_l_cons ⟨mm_aret, ml_aret⟩ ?_
  refine mb_l_cons ⟨mm_ild _ _, ml_ild _ _⟩ ?_
  refine mb_l_cons ⟨mm_push _ _, ml_push _ _⟩ ?_
  refine mb_l_cons ⟨mm_if2 _ _ _, ml_if2 _ _ _⟩ ?_
  refine mb_l_cons ⟨mm_ald _ _, ml_ald _ _⟩ ?_
  refine mb_l_cons ⟨mm_getf _ _ _, ml_getf _ _ _⟩ ?_
  refine mb_l_cons ⟨mm_go _, ml_go _⟩ ?_
  refine mb_l_cons ⟨mm_ald _ _, ml_ald _ _⟩ ?_
  refine mb_l_cons ⟨mm_ild _ _, ml_ild _ _⟩ ?_
  refine mb_l_cons ⟨mm_callv _ _ _ _ _, ml_callv _ _ _ _ _⟩ ?_
  refine mb_l_cons ⟨mm_aret, ml_aret⟩ ?_
  exact mb_l_nil
theorem mz_X7_isCurveFrame : ∀ pc i, mb_look mc_X7_isCurveFrame pc = some i → mb_Mon i ∧ mb_Le i := by
  unfold mc_X7_isCurveFrame
  refine mb_l_cons ⟨mm_ild _ _, ml_ild _ _⟩ ?_
  refine mb_l_cons ⟨mm_if1 _ _ _, ml_if1 _ _ _⟩ ?_
  refine mb_l_cons ⟨mm_ild _ _, ml_ild _ _⟩ ?_
  refine mb_l_cons ⟨mm_push _ _, ml_push _ _⟩ ?_
  refine mb_l_cons ⟨mm_if2 _ _ _, ml_if2 _ _ _⟩ ?_
  refine mb_l_cons ⟨mm_push _ _, ml_push _ _⟩ ?_
  refine mb_l_cons ⟨mm_go _, ml_go _⟩ ?_
  refine mb_l_cons ⟨mm_push _ _, ml_push _ _⟩ ?_
  refine mb_l_cons ⟨mm_zret, ml_zret⟩ ?_
  exact mb_l_nil
theorem mz_X7_canBeShown : ∀ pc i, mb_look mc_X7_canBeShown pc = some i → mb_Mon i ∧ mb_Le i := by
  unfold mc_X7_canBeShown
  refine mb_l_cons ⟨mm_ild _ _, ml_ild _ _⟩ ?_
  refine mb_l_cons ⟨mm_if1 _ _ _, ml_if1 _ _ _⟩ ?_
  refine mb_l_cons ⟨mm_ild _ _, ml_ild _ _⟩ ?_
  refine mb_l_cons ⟨mm_push _ _, ml_push _ _⟩ ?_
  refine mb_l_cons ⟨mm_if2 _ _ _, ml_if2 _ _ _⟩ ?_
  refine mb_l_cons ⟨mm_push _ _, ml_push _ _⟩ ?_
  refine mb_l_cons ⟨mm_go _, ml_go _⟩ ?_
  refine mb_l_cons ⟨mm_push _ _, ml_push _ _⟩ ?_
  refine mb_l_cons ⟨mm_zret, ml_zret⟩ ?_
  exact mb_l_nil
theorem mz_X7_seenVersion : ∀ pc i, mb_look mc_X7_seenVersion pc = some i → mb_Mon i ∧ mb_Le i := by
  unfold mc_X7_seenVersion
  refine mb_l_cons ⟨mm_ald _ _, ml_ald _ _⟩ ?_
  refine mb_l_cons ⟨mm_ild _ _, ml_ild _ _⟩ ?_
  refine mb_l_cons ⟨mm_callv _ _ _ _ _, ml_callv _ _ _ _ _⟩ ?_
  refine mb_l_cons ⟨mm_ast _ _, ml_ast _ _⟩ ?_
  refine mb_l_cons ⟨mm_ald _ _, ml_ald _ _⟩ ?_
  refine mb_l_cons ⟨mm_ild _ _, ml_ild _ _⟩ ?_
  refine mb_l_cons ⟨mm_callv _ _ _ _ _, ml_callv _ _ _ _ _⟩ ?_
  refine mb_l_cons ⟨mm_ast _ _, ml_ast _ _⟩ ?_
  refine mb_l_cons ⟨mm_ald _ _, ml_ald _ _⟩ ?_
  refine mb_l_cons ⟨mm_ifn _ _, ml_ifn _ _⟩ ?_
  refine mb_l_cons ⟨mm_ald _ _, ml_ald _ _⟩ ?_
  refine mb_l_cons ⟨mm_ifn _ _, ml_ifn _ _⟩ ?_
  refine mb_l_cons ⟨mm_ald _ _, ml_ald _ _⟩ ?_
  refine mb_l_cons ⟨mm_ald _ _, ml_ald _ _⟩ ?_
  refine mb_l_cons ⟨mm_getf _ _ _, ml_getf _ _ _⟩ ?_
  refine mb_l_cons ⟨mm_callv _ _ _ _ _, ml_callv _ _ _ _ _⟩ ?_
  refine mb_l_cons ⟨mm_if1 _ _ _, ml_if1 _ _ _⟩ ?_
  refine mb_l_cons ⟨mm_push _ _, ml_push _ _⟩ ?_
  refine mb_l_cons ⟨mm_iret, ml_iret⟩ ?_
  refine mb_l_cons ⟨mm_ald _ _, ml_ald _ _⟩ ?_
  refine mb_l_cons ⟨mm_getf _ _ _, ml_getf _ _ _⟩ ?_
  refine mb_l_cons ⟨mm_push _ _, ml_push _ _⟩ ?_
  refine mb_l_cons ⟨mm_if2 _ _ _, ml_if2 _ _ _⟩ ?_
  refine mb_l_cons ⟨mm_ald _ _, ml_ald _ _⟩ ?_
  refine mb_l_cons ⟨mm_getf _ _ _, ml_getf _ _ _⟩ ?_
  refine mb_l_cons ⟨mm_push _ _, ml_push _ _⟩ ?_
  refine mb_l_cons ⟨mm_isub _, ml_isub _⟩ ?_
  refine mb_l_cons ⟨mm_go _, ml_go _⟩ ?_
  refine mb_l_cons ⟨mm_ald _ _, ml_ald _ _⟩ ?_
  refine mb_l_cons ⟨mm_getf _ _ _, ml_getf _ _ _⟩ ?_
  refine mb_l_cons ⟨mm_iret, ml_iret⟩ ?_
  exact mb_l_nil
theorem mz_X7_seenRig : ∀ pc i, mb_look mc_X7_seenRig pc = some i → mb_Mon i ∧ mb_Le i := by
  unfold mc_X7_seenRig
  refine mb_l_cons ⟨mm_ald _ _, ml_ald _ _⟩ ?_
  refine mb_l_cons ⟨mm_ild _ _, ml_ild _ _⟩ ?_
  refine mb_l_cons ⟨mm_callv _ _ _ _ _, ml_callv _ _ _ _ _⟩ ?_
  refine mb_l_cons ⟨mm_ast _ _, ml_ast _ _⟩ ?_
  refine mb_l_cons ⟨mm_ald _ _, ml_ald _ _⟩ ?_
  refine mb_l_cons ⟨mm_ifnn _ _, ml_ifnn _ _⟩ ?_
  refine mb_l_cons ⟨mm_push _ _, ml_push _ _⟩ ?_
  refine mb_l_cons ⟨mm_go _, ml_go _⟩ ?_
  refine mb_l_cons ⟨mm_ald _ _, ml_ald _ _⟩ ?_
  refine mb_l_cons ⟨mm_ald _ _, ml_ald _ _⟩ ?_
  refine mb_l_cons ⟨mm_ald _ _, ml_ald _ _⟩ ?_
  refine mb_l_cons ⟨mm_ald _ _, ml_ald _ _⟩ ?_
  refine mb_l_cons ⟨mm_ild _ _, ml_ild _ _⟩ ?_
  refine mb_l_cons ⟨mm_callv _ _ _ _ _, ml_callv _ _ _ _ _⟩ ?_
  refine mb_l_cons ⟨mm_callv _ _ _ _ _, ml_callv _ _ _ _ _⟩ ?_
  refine mb_l_cons ⟨mm_aret, ml_aret⟩ ?_
  exact mb_l_nil
theorem mz_X7_bonesSeen : ∀ pc i, mb_look mc_X7_bonesSeen pc = some i → mb_Mon i ∧ mb_Le i := by
  unfold mc_X7_bonesSeen
  refine mb_l_cons ⟨mm_push _ _, ml_push _ _⟩ ?_
  refine mb_l_cons ⟨mm_ist _ _, ml_ist _ _⟩ ?_
  refine mb_l_cons ⟨mm_push _ _, ml_push _ _⟩ ?_
  refine mb_l_cons ⟨mm_ist _ _, ml_ist _ _⟩ ?_
  refine mb_l_cons ⟨mm_ild _ _, ml_ild _ _⟩ ?_
  refine mb_l_cons ⟨mm_ald _ _, ml_ald _ _⟩ ?_
  refine mb_l_cons ⟨mm_getf _ _ _, ml_getf _ _ _⟩ ?_
  refine mb_l_cons ⟨mm_if2 _ _ _, ml_if2 _ _ _⟩ ?_
  refine mb_l_cons ⟨mm_ald _ _, ml_ald _ _⟩ ?_
  refine mb_l_cons ⟨mm_ald _ _, ml_ald _ _⟩ ?_
  refine mb_l_cons ⟨mm_ald _ _, ml_ald _ _⟩ ?_
  refine mb_l_cons ⟨mm_ild _ _, ml_ild _ _⟩ ?_
  refine mb_l_cons ⟨mm_callv _ _ _ _ _, ml_callv _ _ _ _ _⟩ ?_
  refine mb_l_cons ⟨mm_ast _ _, ml_ast _ _⟩ ?_
  refine mb_l_cons ⟨mm_ald _ _, ml_ald _ _⟩ ?_
  refine mb_l_cons ⟨mm_ifn _ _, ml_ifn _ _⟩ ?_
  refine mb_l_cons ⟨mm_ild _ _, ml_ild _ _⟩ ?_
  refine mb_l_cons ⟨mm_ald _ _, ml_ald _ _⟩ ?_
  refine mb_l_cons ⟨mm_getf _ _ _, ml_getf _ _ _⟩ ?_
  refine mb_l_cons ⟨mm_iadd _, ml_iadd _⟩ ?_
  refine mb_l_cons ⟨mm_ist _ _, ml_ist _ _⟩ ?_
  refine mb_l_cons ⟨mm_iinc _ _ _, ml_iinc _ _ _⟩ ?_
  refine mb_l_cons ⟨mm_go _, ml_go _⟩ ?_
  refine mb_l_cons ⟨mm_ild _ _, ml_ild _ _⟩ ?_
  refine mb_l_cons ⟨mm_iret, ml_iret⟩ ?_
  exact mb_l_nil
theorem mz_X7_keepVersions : ∀ pc i, mb_look mc_X7_keepVersions pc = some i → mb_Mon i ∧ mb_Le i := by
  unfold mc_X7_keepVersions
  refine mb_l_cons ⟨mm_push _ _, ml_push _ _⟩ ?_
  refine mb_l_cons ⟨mm_ist _ _, ml_ist _ _⟩ ?_
  refine mb_l_cons ⟨mm_ild _ _, ml_ild _ _⟩ ?_
  refine mb_l_cons ⟨mm_ald _ _, ml_ald _ _⟩ ?_
  refine mb_l_cons ⟨mm_getf _ _ _, ml_getf _ _ _⟩ ?_
  refine mb_l_cons ⟨mm_if2 _ _ _, ml_if2 _ _ _⟩ ?_
  refine mb_l_cons ⟨mm_ald _ _, ml_ald _ _⟩ ?_
  refine mb_l_cons ⟨mm_ild _ _, ml_ild _ _⟩ ?_
  refine mb_l_cons ⟨mm_ald _ _, ml_ald _ _⟩ ?_
  refine mb_l_cons ⟨mm_ald _ _, ml_ald _ _⟩ ?_
  refine mb_l_cons ⟨mm_ald _ _, ml_ald _ _⟩ ?_
  refine mb_l_cons ⟨mm_ild _ _, ml_ild _ _⟩ ?_
  refine mb_l_cons ⟨mm_callv _ _ _ _ _, ml_callv _ _ _ _ _⟩ ?_
  refine mb_l_cons ⟨mm_callv _ _ _ _ _, ml_callv _ _ _ _ _⟩ ?_
  refine mb_l_cons ⟨mm_iinc _ _ _, ml_iinc _ _ _⟩ ?_
  refine mb_l_cons ⟨mm_go _, ml_go _⟩ ?_
  refine mb_l_cons ⟨mm_vret, ml_vret⟩ ?_
  exact mb_l_nil
theorem mz_X7_countRendering : ∀ pc i, mb_look mc_X7_countRendering pc = some i → mb_Mon i ∧ mb_Le i := by
  unfold mc_X7_countRendering
  refine mb_l_cons ⟨mm_ald _ _, ml_ald _ _⟩ ?_
  refine mb_l_cons ⟨mm_dup _, ml_dup _⟩ ?_
  refine mb_l_cons ⟨mm_getf _ _ _, ml_getf _ _ _⟩ ?_
  refine mb_l_cons ⟨mm_push _ _, ml_push _ _⟩ ?_
  refine mb_l_cons ⟨mm_iadd _, ml_iadd _⟩ ?_
  refine mb_l_cons ⟨mm_putf _ _ _ _, ml_putf _ _ _ _⟩ ?_
  refine mb_l_cons ⟨mm_ald _ _, ml_ald _ _⟩ ?_
  refine mb_l_cons ⟨mm_dup _, ml_dup _⟩ ?_
  refine mb_l_cons ⟨mm_getf _ _ _, ml_getf _ _ _⟩ ?_
  refine mb_l_cons ⟨mm_push _ _, ml_push _ _⟩ ?_
  refine mb_l_cons ⟨mm_iadd _, ml_iadd _⟩ ?_
  refine mb_l_cons ⟨mm_putf _ _ _ _, ml_putf _ _ _ _⟩ ?_
  refine mb_l_cons ⟨mm_vret, ml_vret⟩ ?_
  exact mb_l_nil
theorem mz_X7_isStale : ∀ pc i, mb_look mc_X7_isStale pc = some i → mb_Mon i ∧ mb_Le i := by
  unfold mc_X7_isStale
  refine mb_l_cons ⟨mm_ald _ _, ml_ald _ _⟩ ?_
  refine mb_l_cons ⟨mm_getf _ _ _, ml_getf _ _ _⟩ ?_
  refine mb_l_cons ⟨mm_if1 _ _ _, ml_if1 _ _ _⟩ ?_
  refine mb_l_cons ⟨mm_push _ _, ml_push _ _⟩ ?_
  refine mb_l_cons ⟨mm_zret, ml_zret⟩ ?_
  refine mb_l_cons ⟨mm_push _ _, ml_push _ _⟩ ?_
  refine mb_l_cons ⟨mm_ist _ _, ml_ist _ _⟩ ?_
  refine mb_l_cons ⟨mm_ild _ _, ml_ild _ _⟩ ?_
  refine mb_l_cons ⟨mm_ald _ _, ml_ald _ _⟩ ?_
  refine mb_l_cons ⟨mm_getf _ _ _, ml_getf _ _ _⟩ ?_
  refine mb_l_cons ⟨mm_if2 _ _ _, ml_if2 _ _ _⟩ ?_
  refine mb_l_cons ⟨mm_ald _ _, ml_ald _ _⟩ ?_
  refine mb_l_cons ⟨mm_ild _ _, ml_ild _ _⟩ ?_
  refine mb_l_cons ⟨mm_callv _ _ _ _ _, ml_callv _ _ _ _ _⟩ ?_
  refine mb_l_cons ⟨mm_ast _ _, ml_ast _ _⟩ ?_
  refine mb_l_cons ⟨mm_ald _ _, ml_ald _ _⟩ ?_
  refine mb_l_cons ⟨mm_ald _ _, ml_ald _ _⟩ ?_
  refine mb_l_cons ⟨mm_ald _ _, ml_ald _ _⟩ ?_
  refine mb_l_cons ⟨mm_ild _ _, ml_ild _ _⟩ ?_
  refine mb_l_cons ⟨mm_callv _ _ _ _ _, ml_callv _ _ _ _ _⟩ ?_
  refine mb_l_cons ⟨mm_ist _ _, ml_ist _ _⟩ ?_
  refine mb_l_cons ⟨mm_ald _ _, ml_ald _ _⟩ ?_
  refine mb_l_cons ⟨mm_ifn _ _, ml_ifn _ _⟩ ?_
  refine mb_l_cons ⟨mm_ald _ _, ml_ald _ _⟩ ?_
  refine mb_l_cons ⟨mm_ald _ _, ml_ald _ _⟩ ?_
  refine mb_l_cons ⟨mm_ild _ _, ml_ild _ _⟩ ?_
  refine mb_l_cons ⟨mm_callv _ _ _ _ _, ml_callv _ _ _ _ _⟩ ?_
  refine mb_l_cons ⟨mm_ild _ _, ml_ild _ _⟩ ?_
  refine mb_l_cons ⟨mm_ald _ _, ml_ald _ _⟩ ?_
  refine mb_l_cons ⟨mm_getf _ _ _, ml_getf _ _ _⟩ ?_
  refine mb_l_cons ⟨mm_callv _ _ _ _ _, ml_callv _ _ _ _ _⟩ ?_
  refine mb_l_cons ⟨mm_if1 _ _ _, ml_if1 _ _ _⟩ ?_
  refine mb_l_cons ⟨mm_push _ _, ml_push _ _⟩ ?_
  refine mb_l_cons ⟨mm_zret, ml_zret⟩ ?_
  refine mb_l_cons ⟨mm_iinc _ _ _, ml_iinc _ _ _⟩ ?_
  refine mb_l_cons ⟨mm_go _, ml_go _⟩ ?_
  refine mb_l_cons ⟨mm_push _ _, ml_push _ _⟩ ?_
  refine mb_l_cons ⟨mm_zret, ml_zret⟩ ?_
  exact mb_l_nil
theorem mz_X7_staleFrames : ∀ pc i, mb_look mc_X7_staleFrames pc = some i → mb_Mon i ∧ mb_Le i := by
  unfold mc_X7_staleFrames
  refine mb_l_cons ⟨mm_push _ _, ml_push _ _⟩ ?_
  refine mb_l_cons ⟨mm_ist _ _, ml_ist _ _⟩ ?_
  refine mb_l_cons ⟨mm_push _ _, ml_push _ _⟩ ?_
  refine mb_l_cons ⟨mm_ist _ _, ml_ist _ _⟩ ?_
  refine mb_l_cons ⟨mm_ild _ _, ml_ild _ _⟩ ?_
  refine mb_l_cons ⟨mm_ald _ _, ml_ald _ _⟩ ?_
  refine mb_l_cons ⟨mm_getf _ _ _, ml_getf _ _ _⟩ ?_
  refine mb_l_cons ⟨mm_if2 _ _ _, ml_if2 _ _ _⟩ ?_
  refine mb_l_cons ⟨mm_ald _ _, ml_ald _ _⟩ ?_
  refine mb_l_cons ⟨mm_ild _ _, ml_ild _ _⟩ ?_
  refine mb_l_cons ⟨mm_callv _ _ _ _ _, ml_callv _ _ _ _ _⟩ ?_
  refine mb_l_cons ⟨mm_ast _ _, ml_ast _ _⟩ ?_
  refine mb_l_cons ⟨mm_ald _ _, ml_ald _ _⟩ ?_
  refine mb_l_cons ⟨mm_ifn _ _, ml_ifn _ _⟩ ?_
  refine mb_l_cons ⟨mm_ald _ _, ml_ald _ _⟩ ?_
  refine mb_l_cons ⟨mm_ald _ _, ml_ald _ _⟩ ?_
  refine mb_l_cons ⟨mm_ald _ _, ml_ald _ _⟩ ?_
  refine mb_l_cons ⟨mm_callv _ _ _ _ _, ml_callv _ _ _ _ _⟩ ?_
  refine mb_l_cons ⟨mm_if1 _ _ _, ml_if1 _ _ _⟩ ?_
  refine mb_l_cons ⟨mm_iinc _ _ _, ml_iinc _ _ _⟩ ?_
  refine mb_l_cons ⟨mm_iinc _ _ _, ml_iinc _ _ _⟩ ?_
  refine mb_l_cons ⟨mm_go _, ml_go _⟩ ?_
  refine mb_l_cons ⟨mm_ild _ _, ml_ild _ _⟩ ?_
  refine mb_l_cons ⟨mm_iret, ml_iret⟩ ?_
  exact mb_l_nil
theorem mz_X7_moveNotes : ∀ pc i, mb_look mc_X7_moveNotes pc = some i → mb_Mon i ∧ mb_Le i := by
  unfold mc_X7_moveNotes
  refine mb_l_cons ⟨mm_push _ _, ml_push _ _⟩ ?_
  refine mb_l_cons ⟨mm_ist _ _, ml_ist _ _⟩ ?_
  refine mb_l_cons ⟨mm_ild _ _, ml_ild _ _⟩ ?_
  refine mb_l_cons ⟨mm_ald _ _, ml_ald _ _⟩ ?_
  refine mb_l_cons ⟨mm_getf _ _ _, ml_getf _ _ _⟩ ?_
  refine mb_l_cons ⟨mm_if2 _ _ _, ml_if2 _ _ _⟩ ?_
  refine mb_l_cons ⟨mm_ald _ _, ml_ald _ _⟩ ?_
  refine mb_l_cons ⟨mm_ild _ _, ml_ild _ _⟩ ?_
  refine mb_l_cons ⟨mm_callv _ _ _ _ _, ml_callv _ _ _ _ _⟩ ?_
  refine mb_l_cons ⟨mm_ast _ _, ml_ast _ _⟩ ?_
  refine mb_l_cons ⟨mm_ald _ _, ml_ald _ _⟩ ?_
  refine mb_l_cons ⟨mm_ifn _ _, ml_ifn _ _⟩ ?_
  refine mb_l_cons ⟨mm_ald _ _, ml_ald _ _⟩ ?_
  refine mb_l_cons ⟨mm_getf _ _ _, ml_getf _ _ _⟩ ?_
  refine mb_l_cons ⟨mm_ild _ _, ml_ild _ _⟩ ?_
  refine mb_l_cons ⟨mm_if2 _ _ _, ml_if2 _ _ _⟩ ?_
  refine mb_l_cons ⟨mm_ald _ _, ml_ald _ _⟩ ?_
  refine mb_l_cons ⟨mm_ild _ _, ml_ild _ _⟩ ?_
  refine mb_l_cons ⟨mm_ild _ _, ml_ild _ _⟩ ?_
  refine mb_l_cons ⟨mm_ild _ _, ml_ild _ _⟩ ?_
  refine mb_l_cons ⟨mm_callv _ _ _ _ _, ml_callv _ _ _ _ _⟩ ?_
  refine mb_l_cons ⟨mm_iinc _ _ _, ml_iinc _ _ _⟩ ?_
  refine mb_l_cons ⟨mm_go _, ml_go _⟩ ?_
  refine mb_l_cons ⟨mm_vret, ml_vret⟩ ?_
  exact mb_l_nil
theorem mz_X7_openNotesOfScene : ∀ pc i, mb_look mc_X7_openNotesOfScene pc = some i → mb_Mon i ∧ mb_Le i := by
  unfold mc_X7_openNotesOfScene
  refine mb_l_cons ⟨mm_push _ _, ml_push _ _⟩ ?_
  refine mb_l_cons ⟨mm_ist _ _, ml_ist _ _⟩ ?_
  refine mb_l_cons ⟨mm_push _ _, ml_push _ _⟩ ?_
  refine mb_l_cons ⟨mm_ist _ _, ml_ist _ _⟩ ?_
  refine mb_l_cons ⟨mm_ild _ _, ml_ild _ _⟩ ?_
  refine mb_l_cons ⟨mm_ald _ _, ml_ald _ _⟩ ?_
  refine mb_l_cons ⟨mm_getf _ _ _, ml_getf _ _ _⟩ ?_
  refine mb_l_cons ⟨mm_if2 _ _ _, ml_if2 _ _ _⟩ ?_
  refine mb_l_cons ⟨mm_ald _ _, ml_ald _ _⟩ ?_
  refine mb_l_cons ⟨mm_ild _ _, ml_ild _ _⟩ ?_
  refine mb_l_cons ⟨mm_callv _ _ _ _ _, ml_callv _ _ _ _ _⟩ ?_
  refine mb_l_cons ⟨mm_ast _ _, ml_ast _ _⟩ ?_
  refine mb_l_cons ⟨mm_ald _ _, ml_ald _ _⟩ ?_
  refine mb_l_cons ⟨mm_ifn _ _, ml_ifn _ _⟩ ?_
  refine mb_l_cons ⟨mm_ald _ _, ml_ald _ _⟩ ?_
  refine mb_l_cons ⟨mm_getf _ _ _, ml_getf _ _ _⟩ ?_
  refine mb_l_cons ⟨mm_if1 _ _ _, ml_if1 _ _ _⟩ ?_
  refine mb_l_cons ⟨mm_ald _ _, ml_ald _ _⟩ ?_
  refine mb_l_cons ⟨mm_getf _ _ _, ml_getf _ _ _⟩ ?_
  refine mb_l_cons ⟨mm_ild _ _, ml_ild _ _⟩ ?_
  refine mb_l_cons ⟨mm_if2 _ _ _, ml_if2 _ _ _⟩ ?_
  refine mb_l_cons ⟨mm_iinc _ _ _, ml_iinc _ _ _⟩ ?_
  refine mb_l_cons ⟨mm_iinc _ _ _, ml_iinc _ _ _⟩ ?_
  refine mb_l_cons ⟨mm_go _, ml_go _⟩ ?_
  refine mb_l_cons ⟨mm_ild _ _, ml_ild _ _⟩ ?_
  refine mb_l_cons ⟨mm_iret, ml_iret⟩ ?_
  exact mb_l_nil
theorem mz_X7_openNotesOfFrame : ∀ pc i, mb_look mc_X7_openNotesOfFrame pc = some i → mb_Mon i ∧ mb_Le i := by
  unfold mc_X7_openNotesOfFrame
  refine mb_l_cons ⟨mm_push _ _, ml_push _ _⟩ ?_
  refine mb_l_cons ⟨mm_ist _ _, ml_ist _ _⟩ ?_
  refine mb_l_cons ⟨mm_push _ _, ml_push _ _⟩ ?_
  refine mb_l_cons ⟨mm_ist _ _, ml_ist _ _⟩ ?_
  refine mb_l_cons ⟨mm_ild _ _, ml_ild _ _⟩ ?_
  refine mb_l_cons ⟨mm_ald _ _, ml_ald _ _⟩ ?_
  refine mb_l_cons ⟨mm_getf _ _ _, ml_getf _ _ _⟩ ?_
  refine mb_l_cons ⟨mm_if2 _ _ _, ml_if2 _ _ _⟩ ?_
  refine mb_l_cons ⟨mm_ald _ _, ml_ald _ _⟩ ?_
  refine mb_l_cons ⟨mm_ild _ _, ml_ild _ _⟩ ?_
  refine mb_l_cons ⟨mm_callv _ _ _ _ _, ml_callv _ _ _ _ _⟩ ?_
  refine mb_l_cons ⟨mm_ast _ _, ml_ast _ _⟩ ?_
  refine mb_l_cons ⟨mm_ald _ _, ml_ald _ _⟩ ?_
  refine mb_l_cons ⟨mm_ifn _ _, ml_ifn _ _⟩ ?_
  refine mb_l_cons ⟨mm_ald _ _, ml_ald _ _⟩ ?_
  refine mb_l_cons ⟨mm_getf _ _ _, ml_getf _ _ _⟩ ?_
  refine mb_l_cons ⟨mm_if1 _ _ _, ml_if1 _ _ _⟩ ?_
  refine mb_l_cons ⟨mm_ald _ _, ml_ald _ _⟩ ?_
  refine mb_l_cons ⟨mm_getf _ _ _, ml_getf _ _ _⟩ ?_
  refine mb_l_cons ⟨mm_ild _ _, ml_ild _ _⟩ ?_
  refine mb_l_cons ⟨mm_if2 _ _ _, ml_if2 _ _ _⟩ ?_
  refine mb_l_cons ⟨mm_ald _ _, ml_ald _ _⟩ ?_
  refine mb_l_cons ⟨mm_getf _ _ _, ml_getf _ _ _⟩ ?_
  refine mb_l_cons ⟨mm_ild _ _, ml_ild _ _⟩ ?_
  refine mb_l_cons ⟨mm_if2 _ _ _, ml_if2 _ _ _⟩ ?_
  refine mb_l_cons ⟨mm_iinc _ _ _, ml_iinc _ _ _⟩ ?_
  refine mb_l_cons ⟨mm_iinc _ _ _, ml_iinc _ _ _⟩ ?_
  refine mb_l_cons ⟨mm_go _, ml_go _⟩ ?_
  refine mb_l_cons ⟨mm_ild _ _, ml_ild _ _⟩ ?_
  refine mb_l_cons ⟨mm_iret, ml_iret⟩ ?_
  exact mb_l_nil
theorem mz_X7_scenesThatCast : ∀ pc i, mb_look mc_X7_scenesThatCast pc = some i → mb_Mon i ∧ mb_Le i := by
  unfold mc_X7_scenesThatCast
  refine mb_l_cons ⟨mm_push _ _, ml_push _ _⟩ ?_
  refine mb_l_cons ⟨mm_ist _ _, ml_ist _ _⟩ ?_
  refine mb_l_cons ⟨mm_push _ _, ml_push _ _⟩ ?_
  refine mb_l_cons ⟨mm_ist _ _, ml_ist _ _⟩ ?_
  refine mb_l_cons ⟨mm_ild _ _, ml_ild _ _⟩ ?_
  refine mb_l_cons ⟨mm_ald _ _, ml_ald _ _⟩ ?_
  refine mb_l_cons ⟨mm_getf _ _ _, ml_getf _ _ _⟩ ?_
  refine mb_l_cons ⟨mm_if2 _ _ _, ml_if2 _ _ _⟩ ?_
  refine mb_l_cons ⟨mm_ald _ _, ml_ald _ _⟩ ?_
  refine mb_l_cons ⟨mm_ild _ _, ml_ild _ _⟩ ?_
  refine mb_l_cons ⟨mm_callv _ _ _ _ _, ml_callv _ _ _ _ _⟩ ?_
  refine mb_l_cons ⟨mm_ast _ _, ml_ast _ _⟩ ?_
  refine mb_l_cons ⟨mm_ald _ _, ml_ald _ _⟩ ?_
  refine mb_l_cons ⟨mm_ifn _ _, ml_ifn _ _⟩ ?_
  refine mb_l_cons ⟨mm_ald _ _, ml_ald _ _⟩ ?_
  refine mb_l_cons ⟨mm_ild _ _, ml_ild _ _⟩ ?_
  refine mb_l_cons ⟨mm_callv _ _ _ _ _, ml_callv _ _ _ _ _⟩ ?_
  refine mb_l_cons ⟨mm_ifn _ _, ml_ifn _ _⟩ ?_
  refine mb_l_cons ⟨mm_iinc _ _ _, ml_iinc _ _ _⟩ ?_
  refine mb_l_cons ⟨mm_iinc _ _ _, ml_iinc _ _ _⟩ ?_
  refine mb_l_cons ⟨mm_go _, ml_go _⟩ ?_
  refine mb_l_cons ⟨mm_ild _ _, ml_ild _ _⟩ ?_
  refine mb_l_cons ⟨mm_iret, ml_iret⟩ ?_
  exact mb_l_nil
theorem mz_X7_allVersions : ∀ pc i, mb_look mc_X7_allVersions pc = some i → mb_Mon i ∧ mb_Le i := by
  unfold mc_X7_allVersions
  refine mb_l_cons ⟨mm_push _ _, ml_push _ _⟩ ?_
  refine mb_l_cons ⟨mm_ist _ _, ml_ist _ _⟩ ?_
  refine mb_l_cons ⟨mm_push _ _, ml_push _ _⟩ ?_
  refine mb_l_cons ⟨mm_ist _ _, ml_ist _ _⟩ ?_
  refine mb_l_cons ⟨mm_ild _ _, ml_ild _ _⟩ ?_
  refine mb_l_cons ⟨mm_ald _ _, ml_ald _ _⟩ ?_
  refine mb_l_cons ⟨mm_getf _ _ _, ml_getf _ _ _⟩ ?_
  refine mb_l_cons ⟨mm_if2 _ _ _, ml_if2 _ _ _⟩ ?_
  refine mb_l_cons ⟨mm_ald _ _, ml_ald _ _⟩ ?_
  refine mb_l_cons ⟨mm_ild _ _, ml_ild _ _⟩ ?_
  refine mb_l_cons ⟨mm_callv _ _ _ _ _, ml_callv _ _ _ _ _⟩ ?_
  refine mb_l_cons ⟨mm_ast _ _, ml_ast _ _⟩ ?_
  refine mb_l_cons ⟨mm_ald _ _, ml_ald _ _⟩ ?_
  refine mb_l_cons ⟨mm_ifn _ _, ml_ifn _ _⟩ ?_
  refine mb_l_cons ⟨mm_ild _ _, ml_ild _ _⟩ ?_
  refine mb_l_cons ⟨mm_ald _ _, ml_ald _ _⟩ ?_
  refine mb_l_cons ⟨mm_getf _ _ _, ml_getf _ _ _⟩ ?_
  refine mb_l_cons ⟨mm_iadd _, ml_iadd _⟩ ?_
  refine mb_l_cons ⟨mm_ist _ _, ml_ist _ _⟩ ?_
  refine mb_l_cons ⟨mm_iinc _ _ _, ml_iinc _ _ _⟩ ?_
  refine mb_l_cons ⟨mm_go _, ml_go _⟩ ?_
  refine mb_l_cons ⟨mm_ild _ _, ml_ild _ _⟩ ?_
  refine mb_l_cons ⟨mm_iret, ml_iret⟩ ?_
  exact mb_l_nil
theorem mz_X7_allFrames : ∀ pc i, mb_look mc_X7_allFrames pc = some i → mb_Mon i ∧ mb_Le i := by
  unfold mc_X7_allFrames
  refine mb_l_cons ⟨mm_push _ _, ml_push _ _⟩ ?_
  refine mb_l_cons ⟨mm_ist _ _, ml_ist _ _⟩ ?_
  refine mb_l_cons ⟨mm_push _ _, ml_push _ _⟩ ?_
  refine mb_l_cons ⟨mm_ist _ _, ml_ist _ _⟩ ?_
  refine mb_l_cons ⟨mm_ild _ _, ml_ild _ _⟩ ?_
  refine mb_l_cons ⟨mm_ald _ _, ml_ald _ _⟩ ?_
  refine mb_l_cons ⟨mm_getf _ _ _, ml_getf _ _ _⟩ ?_
  refine mb_l_cons ⟨mm_if2 _ _ _, ml_if2 _ _ _⟩ ?_
  refine mb_l_cons ⟨mm_ald _ _, ml_ald _ _⟩ ?_
  refine mb_l_cons ⟨mm_ild _ _, ml_ild _ _⟩ ?_
  refine mb_l_cons ⟨mm_callv _ _ _ _ _, ml_callv _ _ _ _ _⟩ ?_
  refine mb_l_cons ⟨mm_ast _ _, ml_ast _ _⟩ ?_
  refine mb_l_cons ⟨mm_ald _ _, ml_ald _ _⟩ ?_
  refine mb_l_cons ⟨mm_ifn _ _, ml_ifn _ _⟩ ?_
  refine mb_l_cons ⟨mm_ild _ _, ml_ild _ _⟩ ?_
  refine mb_l_cons ⟨mm_ald _ _, ml_ald _ _⟩ ?_
  refine mb_l_cons ⟨mm_getf _ _ _, ml_getf _ _ _⟩ ?_
  refine mb_l_cons ⟨mm_iadd _, ml_iadd _⟩ ?_
  refine mb_l_cons ⟨mm_ist _ _, ml_ist _ _⟩ ?_
  refine mb_l_cons ⟨mm_iinc _ _ _, ml_iinc _ _ _⟩ ?_
  refine mb_l_cons ⟨mm_go _, ml_go _⟩ ?_
  refine mb_l_cons ⟨mm_ild _ _, ml_ild _ _⟩ ?_
  refine mb_l_cons ⟨mm_iret, ml_iret⟩ ?_
  exact mb_l_nil
theorem mz_X7_allStaleFrames : ∀ pc i, mb_look mc_X7_allStaleFrames pc = some i → mb_Mon i ∧ mb_Le i := by
  unfold mc_X7_allStaleFrames
  refine mb_l_cons ⟨mm_push _ _, ml_push _ _⟩ ?_
  refine mb_l_cons ⟨mm_ist _ _, ml_ist _ _⟩ ?_
  refine mb_l_cons ⟨mm_push _ _, ml_push _ _⟩ ?_
  refine mb_l_cons ⟨mm_ist _ _, ml_ist _ _⟩ ?_
  refine mb_l_cons ⟨mm_ild _ _, ml_ild _ _⟩ ?_
  refine mb_l_cons ⟨mm_ald _ _, ml_ald _ _⟩ ?_
  refine mb_l_cons ⟨mm_getf _ _ _, ml_getf _ _ _⟩ ?_
  refine mb_l_cons ⟨mm_if2 _ _ _, ml_if2 _ _ _⟩ ?_
  refine mb_l_cons ⟨mm_ald _ _, ml_ald _ _⟩ ?_
  refine mb_l_cons ⟨mm_ild _ _, ml_ild _ _⟩ ?_
  refine mb_l_cons ⟨mm_callv _ _ _ _ _, ml_callv _ _ _ _ _⟩ ?_
  refine mb_l_cons ⟨mm_ast _ _, ml_ast _ _⟩ ?_
  refine mb_l_cons ⟨mm_ald _ _, ml_ald _ _⟩ ?_
  refine mb_l_cons ⟨mm_ifn _ _, ml_ifn _ _⟩ ?_
  refine mb_l_cons ⟨mm_ild _ _, ml_ild _ _⟩ ?_
  refine mb_l_cons ⟨mm_ald _ _, ml_ald _ _⟩ ?_
  refine mb_l_cons ⟨mm_ald _ _, ml_ald _ _⟩ ?_
  refine mb_l_cons ⟨mm_callv _ _ _ _ _, ml_callv _ _ _ _ _⟩ ?_
  refine mb_l_cons ⟨mm_iadd _, ml_iadd _⟩ ?_
  refine mb_l_cons ⟨mm_ist _ _, ml_ist _ _⟩ ?_
  refine mb_l_cons ⟨mm_iinc _ _ _, ml_iinc _ _ _⟩ ?_
  refine mb_l_cons ⟨mm_go _, ml_go _⟩ ?_
  refine mb_l_cons ⟨mm_ild _ _, ml_ild _ _⟩ ?_
  refine mb_l_cons ⟨mm_iret, ml_iret⟩ ?_
  exact mb_l_nil
theorem mz_X7_allOpenNotes : ∀ pc i, mb_look mc_X7_allOpenNotes pc = some i → mb_Mon i ∧ mb_Le i := by
  unfold mc_X7_allOpenNotes
  refine mb_l_cons ⟨mm_push _ _, ml_push _ _⟩ ?_
  refine mb_l_cons ⟨mm_ist _ _, ml_ist _ _⟩ ?_
  refine mb_l_cons ⟨mm_push _ _, ml_push _ _⟩ ?_
  refine mb_l_cons ⟨mm_ist _ _, ml_ist _ _⟩ ?_
  refine mb_l_cons ⟨mm_ild _ _, ml_ild _ _⟩ ?_
  refine mb_l_cons ⟨mm_ald _ _, ml_ald _ _⟩ ?_
  refine mb_l_cons ⟨mm_getf _ _ _, ml_getf _ _ _⟩ ?_
  refine mb_l_cons ⟨mm_if2 _ _ _, ml_if2 _ _ _⟩ ?_
  refine mb_l_cons ⟨mm_ald _ _, ml_ald _ _⟩ ?_
  refine mb_l_cons ⟨mm_ild _ _, ml_ild _ _⟩ ?_
  refine mb_l_cons ⟨mm_callv _ _ _ _ _, ml_callv _ _ _ _ _⟩ ?_
  refine mb_l_cons ⟨mm_ast _ _, ml_ast _ _⟩ ?_
  refine mb_l_cons ⟨mm_ald _ _, ml_ald _ _⟩ ?_
  refine mb_l_cons ⟨mm_ifn _ _, ml_ifn _ _⟩ ?_
  refine mb_l_cons ⟨mm_ald _ _, ml_ald _ _⟩ ?_
  refine mb_l_cons ⟨mm_getf _ _ _, ml_getf _ _ _⟩ ?_
  refine mb_l_cons ⟨mm_if1 _ _ _, ml_if1 _ _ _⟩ ?_
  refine mb_l_cons ⟨mm_iinc _ _ _, ml_iinc _ _ _⟩ ?_
  refine mb_l_cons ⟨mm_iinc _ _ _, ml_iinc _ _ _⟩ ?_
  refine mb_l_cons ⟨mm_go _, ml_go _⟩ ?_
  refine mb_l_cons ⟨mm_ild _ _, ml_ild _ _⟩ ?_
  refine mb_l_cons ⟨mm_iret, ml_iret⟩ ?_
  exact mb_l_nil
theorem mz_X8_init : ∀ pc i, mb_look mc_X8_init pc = some i → mb_Mon i ∧ mb_Le i := by
  unfold mc_X8_init
  refine mb_l_cons ⟨mm_ald _ _, ml_ald _ _⟩ ?_
  refine mb_l_cons ⟨mm_oinit _, ml_oinit _⟩ ?_
  refine mb_l_cons ⟨mm_ald _ _, ml_ald _ _⟩ ?_
  refine mb_l_cons ⟨mm_push _ _, ml_push _ _⟩ ?_
  refine mb_l_cons ⟨mm_newi _, ml_newi _⟩ ?_
  refine mb_l_cons ⟨mm_putf _ _ _ _, ml_putf _ _ _ _⟩ ?_
  refine mb_l_cons ⟨mm_ald _ _, ml_ald _ _⟩ ?_
  refine mb_l_cons ⟨mm_push _ _, ml_push _ _⟩ ?_
  refine mb_l_cons ⟨mm_newi _, ml_newi _⟩ ?_
  refine mb_l_cons ⟨mm_putf _ _ _ _, ml_putf _ _ _ _⟩ ?_
  refine mb_l_cons ⟨mm_ald _ _, ml_ald _ _⟩ ?_
  refine mb_l_cons ⟨mm_push _ _, ml_push _ _⟩ ?_
  refine mb_l_cons ⟨mm_newi _, ml_newi _⟩ ?_
  refine mb_l_cons ⟨mm_putf _ _ _ _, ml_putf _ _ _ _⟩ ?_
  refine mb_l_cons ⟨mm_ald _ _, ml_ald _ _⟩ ?_
  refine mb_l_cons ⟨mm_push _ _, ml_push _ _⟩ ?_
  refine mb_l_cons ⟨mm_newi _, ml_newi _⟩ ?_
  refine mb_l_cons ⟨mm_putf _ _ _ _, ml_putf _ _ _ _⟩ ?_
  refine mb_l_cons ⟨mm_ald _ _, ml_ald _ _⟩ ?_
  refine mb_l_cons ⟨mm_push _ _, ml_push _ _⟩ ?_
  refine mb_l_cons ⟨mm_newi _, ml_newi _⟩ ?_
  refine mb_l_cons ⟨mm_putf _ _ _ _, ml_putf _ _ _ _⟩ ?_
  refine mb_l_cons ⟨mm_ald _ _, ml_ald _ _⟩ ?_
  refine mb_l_cons ⟨mm_push _ _, ml_push _ _⟩ ?_
  refine mb_l_cons ⟨mm_newi _, ml_newi _⟩ ?_
  refine mb_l_cons ⟨mm_putf _ _ _ _, ml_putf _ _ _ _⟩ ?_
  refine mb_l_cons ⟨mm_ald _ _, ml_ald _ _⟩ ?_
  refine mb_l_cons ⟨mm_push _ _, ml_push _ _⟩ ?_
  refine mb_l_cons ⟨mm_newi _, ml_newi _⟩ ?_
  refine mb_l_cons ⟨mm_putf _ _ _ _, ml_putf _ _ _ _⟩ ?_
  refine mb_l_cons ⟨mm_ald _ _, ml_ald _ _⟩ ?_
  refine mb_l_cons ⟨mm_push _ _, ml_push _ _⟩ ?_
  refine mb_l_cons ⟨mm_newi _, ml_newi _⟩ ?_
  refine mb_l_cons ⟨mm_putf _ _ _ _, ml_putf _ _ _ _⟩ ?_
  refine mb_l_cons ⟨mm_ald _ _, ml_ald _ _⟩ ?_
  refine mb_l_cons ⟨mm_push _ _, ml_push _ _⟩ ?_
  refine mb_l_cons ⟨mm_newz _, ml_newz _⟩ ?_
  refine mb_l_cons ⟨mm_putf _ _ _ _, ml_putf _ _ _ _⟩ ?_
  refine mb_l_cons ⟨mm_ald _ _, ml_ald _ _⟩ ?_
  refine mb_l_cons ⟨mm_push _ _, ml_push _ _⟩ ?_
  refine mb_l_cons ⟨mm_newi _, ml_newi _⟩ ?_
  refine mb_l_cons ⟨mm_putf _ _ _ _, ml_putf _ _ _ _⟩ ?_
  refine mb_l_cons ⟨mm_ald _ _, ml_ald _ _⟩ ?_
  refine mb_l_cons ⟨mm_push _ _, ml_push _ _⟩ ?_
  refine mb_l_cons ⟨mm_newi _, ml_newi _⟩ ?_
  refine mb_l_cons ⟨mm_putf _ _ _ _, ml_putf _ _ _ _⟩ ?_
  refine mb_l_cons ⟨mm_ald _ _, ml_ald _ _⟩ ?_
  refine mb_l_cons ⟨mm_push _ _, ml_push _ _⟩ ?_
  refine mb_l_cons ⟨mm_newi _, ml_newi _⟩ ?_
  refine mb_l_cons ⟨mm_putf _ _ _ _, ml_putf _ _ _ _⟩ ?_
  refine mb_l_cons ⟨mm_ald _ _, ml_ald _ _⟩ ?_
  refine mb_l_cons ⟨mm_push _ _, ml_push _ _⟩ ?_
  refine mb_l_cons ⟨mm_newi _, ml_newi _⟩ ?_
  refine mb_l_cons ⟨mm_putf _ _ _ _, ml_putf _ _ _ _⟩ ?_
  refine mb_l_cons ⟨mm_ald _ _, ml_ald _ _⟩ ?_
  refine mb_l_cons ⟨mm_push _ _, ml_push _ _⟩ ?_
  refine mb_l_cons ⟨mm_newi _, ml_newi _⟩ ?_
  refine mb_l_cons ⟨mm_putf _ _ _ _, ml_putf _ _ _ _⟩ ?_
  refine mb_l_cons ⟨mm_ald _ _, ml_ald _ _⟩ ?_
  refine mb_l_cons ⟨mm_push _ _, ml_push _ _⟩ ?_
  refine mb_l_cons ⟨mm_newi _, ml_newi _⟩ ?_
  refine mb_l_cons ⟨mm_putf _ _ _ _, ml_putf _ _ _ _⟩ ?_
  refine mb_l_cons ⟨mm_ald _ _, ml_ald _ _⟩ ?_
  refine mb_l_cons ⟨mm_push _ _, ml_push _ _⟩ ?_
  refine mb_l_cons ⟨mm_newi _, ml_newi _⟩ ?_
  refine mb_l_cons ⟨mm_putf _ _ _ _, ml_putf _ _ _ _⟩ ?_
  refine mb_l_cons ⟨mm_ald _ _, ml_ald _ _⟩ ?_
  refine mb_l_cons ⟨mm_push _ _, ml_push _ _⟩ ?_
  refine mb_l_cons ⟨mm_newi _, ml_newi _⟩ ?_
  refine mb_l_cons ⟨mm_putf _ _ _ _, ml_putf _ _ _ _⟩ ?_
  refine mb_l_cons ⟨mm_ald _ _, ml_ald _ _⟩ ?_
  refine mb_l_cons ⟨mm_push _ _, ml_push _ _⟩ ?_
  refine mb_l_cons ⟨mm_newi _, ml_newi _⟩ ?_
  refine mb_l_cons ⟨mm_putf _ _ _ _, ml_putf _ _ _ _⟩ ?_
  refine mb_l_cons ⟨mm_ald _ _, ml_ald _ _⟩ ?_
  refine mb_l_cons ⟨mm_push _ _, ml_push _ _⟩ ?_
  refine mb_l_cons ⟨mm_newi _, ml_newi _⟩ ?_
  refine mb_l_cons ⟨mm_putf _ _ _ _, ml_putf _ _ _ _⟩ ?_
  refine mb_l_cons ⟨mm_ald _ _, ml_ald _ _⟩ ?_
  refine mb_l_cons ⟨mm_push _ _, ml_push _ _⟩ ?_
  refine mb_l_cons ⟨mm_newz _, ml_newz _⟩ ?_
  refine mb_l_cons ⟨mm_putf _ _ _ _, ml_putf _ _ _ _⟩ ?_
  refine mb_l_cons ⟨mm_ald _ _, ml_ald _ _⟩ ?_
  refine mb_l_cons ⟨mm_push _ _, ml_push _ _⟩ ?_
  refine mb_l_cons ⟨mm_newi _, ml_newi _⟩ ?_
  refine mb_l_cons ⟨mm_putf _ _ _ _, ml_putf _ _ _ _⟩ ?_
  refine mb_l_cons ⟨mm_ald _ _, ml_ald _ _⟩ ?_
  refine mb_l_cons ⟨mm_push _ _, ml_push _ _⟩ ?_
  refine mb_l_cons ⟨mm_putf _ _ _ _, ml_putf _ _ _ _⟩ ?_
  refine mb_l_cons ⟨mm_vret, ml_vret⟩ ?_
  exact mb_l_nil
theorem mz_X8_thrown : ∀ pc i, mb_look mc_X8_thrown pc = some i → mb_Mon i ∧ mb_Le i := by
  unfold mc_X8_thrown
  refine mb_l_cons ⟨mm_ald _ _, ml_ald _ _⟩ ?_
  refine mb_l_cons ⟨mm_getf _ _ _, ml_getf _ _ _⟩ ?_
  refine mb_l_cons ⟨mm_iret, ml_iret⟩ ?_
  exact mb_l_nil
theorem mz_X8_holds : ∀ pc i, mb_look mc_X8_holds pc = some i → mb_Mon i ∧ mb_Le i := by
  unfold mc_X8_holds
  refine mb_l_cons ⟨mm_ald _ _, ml_ald _ _⟩ ?_
  refine mb_l_cons ⟨mm_ild _ _, ml_ild _ _⟩ ?_
  refine mb_l_cons ⟨mm_putf _ _ _ _, ml_putf _ _ _ _⟩ ?_
  refine mb_l_cons ⟨mm_ild _ _, ml_ild _ _⟩ ?_
  refine mb_l_cons ⟨mm_if1 _ _ _, ml_if1 _ _ _⟩ ?_
  refine mb_l_cons ⟨mm_push _ _, ml_push _ _⟩ ?_
  refine mb_l_cons ⟨mm_go _, ml_go _⟩ ?_
  refine mb_l_cons ⟨mm_push _ _, ml_push _ _⟩ ?_
  refine mb_l_cons ⟨mm_zret, ml_zret⟩ ?_
  exact mb_l_nil
theorem mz_X8_isIn : ∀ pc i, mb_look mc_X8_isIn pc = some i → mb_Mon i ∧ mb_Le i := by
  unfold mc_X8_isIn
  refine mb_l_cons ⟨mm_ild _ _, ml_ild _ _⟩ ?_
  refine mb_l_cons ⟨mm_ild _ _, ml_ild _ _⟩ ?_
  refine mb_l_cons ⟨mm_if2 _ _ _, ml_if2 _ _ _⟩ ?_
  refine mb_l_cons ⟨mm_ild _ _, ml_ild _ _⟩ ?_
  refine mb_l_cons ⟨mm_ild _ _, ml_ild _ _⟩ ?_
  refine mb_l_cons ⟨mm_if2 _ _ _, ml_if2 _ _ _⟩ ?_
  refine mb_l_cons ⟨mm_push _ _, ml_push _ _⟩ ?_
  refine mb_l_cons ⟨mm_go _, ml_go _⟩ ?_
  refine mb_l_cons ⟨mm_push _ _, ml_push _ _⟩ ?_
  refine mb_l_cons ⟨mm_zret, ml_zret⟩ ?_
  exact mb_l_nil
theorem mz_X8_isAsset : ∀ pc i, mb_look mc_X8_isAsset pc = some i → mb_Mon i ∧ mb_Le i := by
  unfold mc_X8_isAsset
  refine mb_l_cons ⟨mm_ild _ _, ml_ild _ _⟩ ?_
  refine mb_l_cons ⟨mm_push _ _, ml_push _ _⟩ ?_
  refine mb_l_cons ⟨mm_ald _ _, ml_ald _ _⟩ ?_
  refine mb_l_cons ⟨mm_getf _ _ _, ml_getf _ _ _⟩ ?_
  refine mb_l_cons ⟨mm_push _ _, ml_push _ _⟩ ?_
  refine mb_l_cons ⟨mm_isub _, ml_isub _⟩ ?_
  refine mb_l_cons ⟨mm_calls _ _ _, ml_calls _ _ _⟩ ?_
  refine mb_l_cons ⟨mm_zret, ml_zret⟩ ?_
  exact mb_l_nil
theorem mz_X8_isScene : ∀ pc i, mb_look mc_X8_isScene pc = some i → mb_Mon i ∧ mb_Le i := by
  unfold mc_X8_isScene
  refine mb_l_cons ⟨mm_ild _ _, ml_ild _ _⟩ ?_
  refine mb_l_cons ⟨mm_push _ _, ml_push _ _⟩ ?_
  refine mb_l_cons ⟨mm_ald _ _, ml_ald _ _⟩ ?_
  refine mb_l_cons ⟨mm_getf _ _ _, ml_getf _ _ _⟩ ?_
  refine mb_l_cons ⟨mm_push _ _, ml_push _ _⟩ ?_
  refine mb_l_cons ⟨mm_isub _, ml_isub _⟩ ?_
  refine mb_l_cons ⟨mm_calls _ _ _, ml_calls _ _ _⟩ ?_
  refine mb_l_cons ⟨mm_zret, ml_zret⟩ ?_
  exact mb_l_nil
theorem mz_X8_isFrame : ∀ pc i, mb_look mc_X8_isFrame pc = some i → mb_Mon i ∧ mb_Le i := by
  unfold mc_X8_isFrame
  refine mb_l_cons ⟨mm_ald _ _, ml_ald _ _⟩ ?_
  refine mb_l_cons ⟨mm_ild _ _, ml_ild _ _⟩ ?_
  refine mb_l_cons ⟨mm_callv _ _ _ _ _, ml_callv _ _ _ _ _⟩ ?_
  refine mb_l_cons ⟨mm_if1 _ _ _, ml_if1 _ _ _⟩ ?_
  refine mb_l_cons ⟨mm_ild _ _, ml_ild _ _⟩ ?_
  refine mb_l_cons ⟨mm_push _ _, ml_push _ _⟩ ?_
  refine mb_l_cons ⟨mm_ald _ _, ml_ald _ _⟩ ?_
  refine mb_l_cons ⟨mm_getf _ _ _, ml_getf _ _ _⟩ ?_
  refine mb_l_cons ⟨mm_ild _ _, ml_ild _ _⟩ ?_
  refine mb_l_cons ⟨mm_iald _, ml_iald _⟩ ?_
  refine mb_l_cons ⟨mm_push _ _, ml_push _ _⟩ ?_
  refine mb_l_cons ⟨mm_isub _, ml_isub _⟩ ?_
  refine mb_l_cons ⟨mm_calls _ _ _, ml_calls _ _ _⟩ ?_
  refine mb_l_cons ⟨mm_if1 _ _ _, ml_if1 _ _ _⟩ ?_
  refine mb_l_cons ⟨mm_push _ _, ml_push _ _⟩ ?_
  refine mb_l_cons ⟨mm_go _, ml_go _⟩ ?_
  refine mb_l_cons ⟨mm_push _ _, ml_push _ _⟩ ?_
  refine mb_l_cons ⟨mm_zret, ml_zret⟩ ?_
  exact mb_l_nil
theorem mz_X8_rigOf : ∀ pc i, mb_look mc_X8_rigOf pc = some i → mb_Mon i ∧ mb_Le i := by
  unfold mc_X8_rigOf
  refine mb_l_cons ⟨mm_ild _ _, ml_ild _ _⟩ ?_
  refine mb_l_cons ⟨mm_push _ _, ml_push _ _⟩ ?_
  refine mb_l_cons ⟨mm_if2 _ _ _, ml_if2 _ _ _⟩ ?_
  refine mb_l_cons ⟨mm_ild _ _, ml_ild _ _⟩ ?_
  refine mb_l_cons ⟨mm_go _, ml_go _⟩ ?_
  refine mb_l_cons ⟨mm_push _ _, ml_push _ _⟩ ?_
  refine mb_l_cons ⟨mm_push _ _, ml_push _ _⟩ ?_
  refine mb_l_cons ⟨mm_ild _ _, ml_ild _ _⟩ ?_
  refine mb_l_cons ⟨mm_imul _, ml_imul _⟩ ?_
  refine mb_l_cons ⟨mm_iadd _, ml_iadd _⟩ ?_
  refine mb_l_cons ⟨mm_ild _ _, ml_ild _ _⟩ ?_
  refine mb_l_cons ⟨mm_iadd _, ml_iadd _⟩ ?_
  refine mb_l_cons ⟨mm_iret, ml_iret⟩ ?_
  exact mb_l_nil
theorem mz_X8_isRig : ∀ pc i, mb_look mc_X8_isRig pc = some i → mb_Mon i ∧ mb_Le i := by
  unfold mc_X8_isRig
  refine mb_l_cons ⟨mm_ald _ _, ml_ald _ _⟩ ?_
  refine mb_l_cons ⟨mm_ild _ _, ml_ild _ _⟩ ?_
  refine mb_l_cons ⟨mm_callv _ _ _ _ _, ml_callv _ _ _ _ _⟩ ?_
  refine mb_l_cons ⟨mm_if1 _ _ _, ml_if1 _ _ _⟩ ?_
  refine mb_l_cons ⟨mm_ild _ _, ml_ild _ _⟩ ?_
  refine mb_l_cons ⟨mm_push _ _, ml_push _ _⟩ ?_
  refine mb_l_cons ⟨mm_ald _ _, ml_ald _ _⟩ ?_
  refine mb_l_cons ⟨mm_getf _ _ _, ml_getf _ _ _⟩ ?_
  refine mb_l_cons ⟨mm_ild _ _, ml_ild _ _⟩ ?_
  refine mb_l_cons ⟨mm_iald _, ml_iald _⟩ ?_
  refine mb_l_cons ⟨mm_push _ _, ml_push _ _⟩ ?_
  refine mb_l_cons ⟨mm_isub _, ml_isub _⟩ ?_
  refine mb_l_cons ⟨mm_calls _ _ _, ml_calls _ _ _⟩ ?_
  refine mb_l_cons ⟨mm_if1 _ _ _, ml_if1 _ _ _⟩ ?_
  refine mb_l_cons ⟨mm_push _ _, ml_push _ _⟩ ?_
  refine mb_l_cons ⟨mm_go _, ml_go _⟩ ?_
  refine mb_l_cons ⟨mm_push _ _, ml_push _ _⟩ ?_
  refine mb_l_cons ⟨mm_zret, ml_zret⟩ ?_
  exact mb_l_nil
theorem mz_X8_isBone : ∀ pc i, mb_look mc_X8_isBone pc = some i → mb_Mon i ∧ mb_Le i := by
  unfold mc_X8_isBone
  refine mb_l_cons ⟨mm_ald _ _, ml_ald _ _⟩ ?_
  refine mb_l_cons ⟨mm_ild _ _, ml_ild _ _⟩ ?_
  refine mb_l_cons ⟨mm_ild _ _, ml_ild _ _⟩ ?_
  refine mb_l_cons ⟨mm_callv _ _ _ _ _, ml_callv _ _ _ _ _⟩ ?_
  refine mb_l_cons ⟨mm_if1 _ _ _, ml_if1 _ _ _⟩ ?_
  refine mb_l_cons ⟨mm_ild _ _, ml_ild _ _⟩ ?_
  refine mb_l_cons ⟨mm_push _ _, ml_push _ _⟩ ?_
  refine mb_l_cons ⟨mm_ald _ _, ml_ald _ _⟩ ?_
  refine mb_l_cons ⟨mm_getf _ _ _, ml_getf _ _ _⟩ ?_
  refine mb_l_cons ⟨mm_ild _ _, ml_ild _ _⟩ ?_
  refine mb_l_cons ⟨mm_ild _ _, ml_ild _ _⟩ ?_
  refine mb_l_cons ⟨mm_calls _ _ _, ml_calls _ _ _⟩ ?_
  refine mb_l_cons ⟨mm_iald _, ml_iald _⟩ ?_
  refine mb_l_cons ⟨mm_push _ _, ml_push _ _⟩ ?_
  refine mb_l_cons ⟨mm_isub _, ml_isub _⟩ ?_
  refine mb_l_cons ⟨mm_calls _ _ _, ml_calls _ _ _⟩ ?_
  refine mb_l_cons ⟨mm_if1 _ _ _, ml_if1 _ _ _⟩ ?_
  refine mb_l_cons ⟨mm_push _ _, ml_push _ _⟩ ?_
  refine mb_l_cons ⟨mm_go _, ml_go _⟩ ?_
  refine mb_l_cons ⟨mm_push _ _, ml_push _ _⟩ ?_
  refine mb_l_cons ⟨mm_zret, ml_zret⟩ ?_
  exact mb_l_nil
theorem mz_X8_keyAt : ∀ pc i, mb_look mc_X8_keyAt pc = some i → mb_Mon i ∧ mb_Le i := by
  unfold mc_X8_keyAt
  refine mb_l_cons ⟨mm_push _ _, ml_push _ _⟩ ?_
  refine mb_l_cons ⟨mm_ist _ _, ml_ist _ _⟩ ?_
  refine mb_l_cons ⟨mm_ild _ _, ml_ild _ _⟩ ?_
  refine mb_l_cons ⟨mm_ald _ _, ml_ald _ _⟩ ?_
  refine mb_l_cons ⟨mm_getf _ _ _, ml_getf _ _ _⟩ ?_
  refine mb_l_cons ⟨mm_ild _ _, ml_ild _ _⟩ ?_
  refine mb_l_cons ⟨mm_iald _, ml_iald _⟩ ?_
  refine mb_l_cons ⟨mm_if2 _ _ _, ml_if2 _ _ _⟩ ?_
  refine mb_l_cons ⟨mm_ald _ _, ml_ald _ _⟩ ?_
  refine mb_l_cons ⟨mm_getf _ _ _, ml_getf _ _ _⟩ ?_
  refine mb_l_cons ⟨mm_push _ _, ml_push _ _⟩ ?_
  refine mb_l_cons ⟨mm_ild _ _, ml_ild _ _⟩ ?_
  refine mb_l_cons ⟨mm_imul _, ml_imul _⟩ ?_
  refine mb_l_cons ⟨mm_ild _ _, ml_ild _ _⟩ ?_
  refine mb_l_cons ⟨mm_iadd _, ml_iadd _⟩ ?_
  refine mb_l_cons ⟨mm_iald _, ml_iald _⟩ ?_
  refine mb_l_cons ⟨mm_ild _ _, ml_ild _ _⟩ ?_
  refine mb_l_cons ⟨mm_if2 _ _ _, ml_if2 _ _ _⟩ ?_
  refine mb_l_cons ⟨mm_iinc _ _ _, ml_iinc _ _ _⟩ ?_
  refine mb_l_cons ⟨mm_go _, ml_go _⟩ ?_
  refine mb_l_cons ⟨mm_ild _ _, ml_ild _ _⟩ ?_
  refine mb_l_cons ⟨mm_iret, ml_iret⟩ ?_
  exact mb_l_nil
theorem mz_X8_isKeyAt : ∀ pc i, mb_look mc_X8_isKeyAt pc = some i → mb_Mon i ∧ mb_Le i := by
  unfold mc_X8_isKeyAt
  refine mb_l_cons ⟨mm_ald _ _, ml_ald _ _⟩ ?_
  refine mb_l_cons ⟨mm_ild _ _, ml_ild _ _⟩ ?_
  refine mb_l_cons ⟨mm_ild _ _, ml_ild _ _⟩ ?_
  refine mb_l_cons ⟨mm_callv _ _ _ _ _, ml_callv _ _ _ _ _⟩ ?_
  refine mb_l_cons ⟨mm_ist _ _, ml_ist _ _⟩ ?_
  refine mb_l_cons ⟨mm_ild _ _, ml_ild _ _⟩ ?_
  refine mb_l_cons ⟨mm_ald _ _, ml_ald _ _⟩ ?_
  refine mb_l_cons ⟨mm_getf _ _ _, ml_getf _ _ _⟩ ?_
  refine mb_l_cons ⟨mm_ild _ _, ml_ild _ _⟩ ?_
  refine mb_l_cons ⟨mm_iald _, ml_iald _⟩ ?_
  refine mb_l_cons ⟨mm_if2 _ _ _, ml_if2 _ _ _⟩ ?_
  refine mb_l_cons ⟨mm_ald _ _, ml_ald _ _⟩ ?_
  refine mb_l_cons ⟨mm_getf _ _ _, ml_getf _ _ _⟩ ?_
  refine mb_l_cons ⟨mm_push _ _, ml_push _ _⟩ ?_
  refine mb_l_cons ⟨mm_ild _ _, ml_ild _ _⟩ ?_
  refine mb_l_cons ⟨mm_imul _, ml_imul _⟩ ?_
  refine mb_l_cons ⟨mm_ild _ _, ml_ild _ _⟩ ?_
  refine mb_l_cons ⟨mm_iadd _, ml_iadd _⟩ ?_
  refine mb_l_cons ⟨mm_iald _, ml_iald _⟩ ?_
  refine mb_l_cons ⟨mm_ild _ _, ml_ild _ _⟩ ?_
  refine mb_l_cons ⟨mm_if2 _ _ _, ml_if2 _ _ _⟩ ?_
  refine mb_l_cons ⟨mm_push _ _, ml_push _ _⟩ ?_
  refine mb_l_cons ⟨mm_go _, ml_go _⟩ ?_
  refine mb_l_cons ⟨mm_push _ _, ml_push _ _⟩ ?_
  refine mb_l_cons ⟨mm_zret, ml_zret⟩ ?_
  exact mb_l_nil
theorem mz_X8_down : ∀ pc i, mb_look mc_X8_down pc = some i → mb_Mon i ∧ mb_Le i := by
  unfold mc_X8_down
  refine mb_l_cons ⟨mm_ild _ _, ml_ild _ _⟩ ?_
  refine mb_l_cons ⟨mm_if1 _ _ _, ml_if1 _ _ _⟩ ?_
  refine mb_l_cons ⟨mm_ild _ _, ml_ild _ _⟩ ?_
  refine mb_l_cons ⟨mm_ineg _, ml_ineg _⟩ ?_
  refine mb_l_cons ⟨mm_ild _ _, ml_ild _ _⟩ ?_
  refine mb_l_cons ⟨mm_iadd _, ml_iadd _⟩ ?_
  refine mb_l_cons ⟨mm_push _ _, ml_push _ _⟩ ?_
  refine mb_l_cons ⟨mm_isub _, ml_isub _⟩ ?_
  refine mb_l_cons ⟨mm_ild _ _, ml_ild _ _⟩ ?_
  refine mb_l_cons ⟨mm_idiv _, ml_idiv _⟩ ?_
  refine mb_l_cons ⟨mm_ineg _, ml_ineg _⟩ ?_
  refine mb_l_cons ⟨mm_go _, ml_go _⟩ ?_
  refine mb_l_cons ⟨mm_ild _ _, ml_ild _ _⟩ ?_
  refine mb_l_cons ⟨mm_ild _ _, ml_ild _ _⟩ ?_
  refine mb_l_cons ⟨mm_idiv _, ml_idiv _⟩ ?_
  refine mb_l_cons ⟨mm_iret, ml_iret⟩ ?_
  exact mb_l_nil
theorem mz_X8_valueAt : ∀ pc i, mb_look mc_X8_valueAt pc = some i → mb_Mon i ∧ mb_Le i := by
  unfold mc_X8_valueAt
  refine mb_l_cons ⟨mm_ald _ _, ml_ald _ _⟩ ?_
  refine mb_l_cons ⟨mm_getf _ _ _, ml_getf _ _ _⟩ ?_
  refine mb_l_cons ⟨mm_ild _ _, ml_ild _ _⟩ ?_
  refine mb_l_cons ⟨mm_iald _, ml_iald _⟩ ?_
  refine mb_l_cons ⟨mm_if1 _ _ _, ml_if1 _ _ _⟩ ?_
  refine mb_l_cons ⟨mm_push _ _, ml_push _ _⟩ ?_
  refine mb_l_cons ⟨mm_iret, ml_iret⟩ ?_
  refine mb_l_cons ⟨mm_ald _ _, ml_ald _ _⟩ ?_
  refine mb_l_cons ⟨mm_ild _ _, ml_ild _ _⟩ ?_
  refine mb_l_cons ⟨mm_ild _ _, ml_ild _ _⟩ ?_
  refine mb_l_cons ⟨mm_push _ _, ml_push _ _⟩ ?_
  refine mb_l_cons ⟨mm_iadd _, ml_iadd _⟩ ?_
  refine mb_l_cons ⟨mm_callv _ _ _ _ _, ml_callv _ _ _ _ _⟩ ?_
  refine mb_l_cons ⟨mm_ist _ _, ml_ist _ _⟩ ?_
  refine mb_l_cons ⟨mm_push _ _, ml_push _ _⟩ ?_
  refine mb_l_cons ⟨mm_ild _ _, ml_ild _ _⟩ ?_
  refine mb_l_cons ⟨mm_imul _, ml_imul _⟩ ?_
  refine mb_l_cons ⟨mm_ild _ _, ml_ild _ _⟩ ?_
  refine mb_l_cons ⟨mm_if1 _ _ _, ml_if1 _ _ _⟩ ?_
  refine mb_l_cons ⟨mm_push _ _, ml_push _ _⟩ ?_
  refine mb_l_cons ⟨mm_go _, ml_go _⟩ ?_
  refine mb_l_cons ⟨mm_ild _ _, ml_ild _ _⟩ ?_
  refine mb_l_cons ⟨mm_push _ _, ml_push _ _⟩ ?_
  refine mb_l_cons ⟨mm_isub _, ml_isub _⟩ ?_
  refine mb_l_cons ⟨mm_iadd _, ml_iadd _⟩ ?_
  refine mb_l_cons ⟨mm_ist _ _, ml_ist _ _⟩ ?_
  refine mb_l_cons ⟨mm_ald _ _, ml_ald _ _⟩ ?_
  refine mb_l_cons ⟨mm_getf _ _ _, ml_getf _ _ _⟩ ?_
  refine mb_l_cons ⟨mm_ild _ _, ml_ild _ _⟩ ?_
  refine mb_l_cons ⟨mm_iald _, ml_iald _⟩ ?_
  refine mb_l_cons ⟨mm_ist _ _, ml_ist _ _⟩ ?_
  refine mb_l_cons ⟨mm_ild _ _, ml_ild _ _⟩ ?_
  refine mb_l_cons ⟨mm_if1 _ _ _, ml_if1 _ _ _⟩ ?_
  refine mb_l_cons ⟨mm_ild _ _, ml_ild _ _⟩ ?_
  refine mb_l_cons ⟨mm_ald _ _, ml_ald _ _⟩ ?_
  refine mb_l_cons ⟨mm_getf _ _ _, ml_getf _ _ _⟩ ?_
  refine mb_l_cons ⟨mm_ild _ _, ml_ild _ _⟩ ?_
  refine mb_l_cons ⟨mm_iald _, ml_iald _⟩ ?_
  refine mb_l_cons ⟨mm_if2 _ _ _, ml_if2 _ _ _⟩ ?_
  refine mb_l_cons ⟨mm_ald _ _, ml_ald _ _⟩ ?_
  refine mb_l_cons ⟨mm_getf _ _ _, ml_getf _ _ _⟩ ?_
  refine mb_l_cons ⟨mm_ild _ _, ml_ild _ _⟩ ?_
  refine mb_l_cons ⟨mm_iald _, ml_iald _⟩ ?_
  refine mb_l_cons ⟨mm_if1 _ _ _, ml_if1 _ _ _⟩ ?_
  refine mb_l_cons ⟨mm_ild _ _, ml_ild _ _⟩ ?_
  refine mb_l_cons ⟨mm_iret, ml_iret⟩ ?_
  refine mb_l_cons ⟨mm_ald _ _, ml_ald _ _⟩ ?_
  refine mb_l_cons ⟨mm_getf _ _ _, ml_getf _ _ _⟩ ?_
  refine mb_l_cons ⟨mm_ild _ _, ml_ild _ _⟩ ?_
  refine mb_l_cons ⟨mm_push _ _, ml_push _ _⟩ ?_
  refine mb_l_cons ⟨mm_iadd _, ml_iadd _⟩ ?_
  refine mb_l_cons ⟨mm_iald _, ml_iald _⟩ ?_
  refine mb_l_cons ⟨mm_ild _ _, ml_ild _ _⟩ ?_
  refine mb_l_cons ⟨mm_isub _, ml_isub _⟩ ?_
  refine mb_l_cons ⟨mm_ist _ _, ml_ist _ _⟩ ?_
  refine mb_l_cons ⟨mm_ild _ _, ml_ild _ _⟩ ?_
  refine mb_l_cons ⟨mm_ald _ _, ml_ald _ _⟩ ?_
  refine mb_l_cons ⟨mm_getf _ _ _, ml_getf _ _ _⟩ ?_
  refine mb_l_cons ⟨mm_ild _ _, ml_ild _ _⟩ ?_
  refine mb_l_cons ⟨mm_iald _, ml_iald _⟩ ?_
  refine mb_l_cons ⟨mm_isub _, ml_isub _⟩ ?_
  refine mb_l_cons ⟨mm_ist _ _, ml_ist _ _⟩ ?_
  refine mb_l_cons ⟨mm_ald _ _, ml_ald _ _⟩ ?_
  refine mb_l_cons ⟨mm_getf _ _ _, ml_getf _ _ _⟩ ?_
  refine mb_l_cons ⟨mm_ild _ _, ml_ild _ _⟩ ?_
  refine mb_l_cons ⟨mm_push _ _, ml_push _ _⟩ ?_
  refine mb_l_cons ⟨mm_iadd _, ml_iadd _⟩ ?_
  refine mb_l_cons ⟨mm_iald _, ml_iald _⟩ ?_
  refine mb_l_cons ⟨mm_ald _ _, ml_ald _ _⟩ ?_
  refine mb_l_cons ⟨mm_getf _ _ _, ml_getf _ _ _⟩ ?_
  refine mb_l_cons ⟨mm_ild _ _, ml_ild _ _⟩ ?_
  refine mb_l_cons ⟨mm_iald _, ml_iald _⟩ ?_
  refine mb_l_cons ⟨mm_isub _, ml_isub _⟩ ?_
  refine mb_l_cons ⟨mm_ist _ _, ml_ist _ _⟩ ?_
  refine mb_l_cons ⟨mm_ild _ _, ml_ild _ _⟩ ?_
  refine mb_l_cons ⟨mm_ald _ _, ml_ald _ _⟩ ?_
  refine mb_l_cons ⟨mm_getf _ _ _, ml_getf _ _ _⟩ ?_
  refine mb_l_cons ⟨mm_ild _ _, ml_ild _ _⟩ ?_
  refine mb_l_cons ⟨mm_iald _, ml_iald _⟩ ?_
  refine mb_l_cons ⟨mm_push _ _, ml_push _ _⟩ ?_
  refine mb_l_cons ⟨mm_if2 _ _ _, ml_if2 _ _ _⟩ ?_
  refine mb_l_cons ⟨mm_ild _ _, ml_ild _ _⟩ ?_
  refine mb_l_cons ⟨mm_ild _ _, ml_ild _ _⟩ ?_
  refine mb_l_cons ⟨mm_imul _, ml_imul _⟩ ?_
  refine mb_l_cons ⟨mm_ild _ _, ml_ild _ _⟩ ?_
  refine mb_l_cons ⟨mm_calls _ _ _, ml_calls _ _ _⟩ ?_
  refine mb_l_cons ⟨mm_go _, ml_go _⟩ ?_
  refine mb_l_cons ⟨mm_ild _ _, ml_ild _ _⟩ ?_
  refine mb_l_cons ⟨mm_ild _ _, ml_ild _ _⟩ ?_
  refine mb_l_cons ⟨mm_imul _, ml_imul _⟩ ?_
  refine mb_l_cons ⟨mm_ild _ _, ml_ild _ _⟩ ?_
  refine mb_l_cons ⟨mm_imul _, ml_imul _⟩ ?_
  refine mb_l_cons ⟨mm_ild _ _, ml_ild _ _⟩ ?_
  refine mb_l_cons ⟨mm_ild _ _, ml_ild _ _⟩ ?_
  refine mb_l_cons ⟨mm_imul _, ml_imul _⟩ ?_
  refine mb_l_cons ⟨mm_calls _ _ _, ml_calls _ _ _⟩ ?_
  refine mb_l_cons ⟨mm_iadd _, ml_iadd _⟩ ?_
  refine mb_l_cons ⟨mm_iret, ml_iret⟩ ?_
  exact mb_l_nil
theorem mz_X8_poseOf : ∀ pc i, mb_look mc_X8_poseOf pc = some i → mb_Mon i ∧ mb_Le i := by
  unfold mc_X8_poseOf
  refine mb_l_cons ⟨mm_push _ _, ml_push _ _⟩ ?_
  refine mb_l_cons ⟨mm_ist _ _, ml_ist _ _⟩ ?_
  refine mb_l_cons ⟨mm_ild _ _, ml_ild _ _⟩ ?_
  refine mb_l_cons ⟨mm_ist _ _, ml_ist _ _⟩ ?_
  refine mb_l_cons ⟨mm_ild _ _, ml_ild _ _⟩ ?_
  refine mb_l_cons ⟨mm_push _ _, ml_push _ _⟩ ?_
  refine mb_l_cons ⟨mm_if2 _ _ _, ml_if2 _ _ _⟩ ?_
  refine mb_l_cons ⟨mm_ild _ _, ml_ild _ _⟩ ?_
  refine mb_l_cons ⟨mm_ald _ _, ml_ald _ _⟩ ?_
  refine mb_l_cons ⟨mm_push _ _, ml_push _ _⟩ ?_
  refine mb_l_cons ⟨mm_ild _ _, ml_ild _ _⟩ ?_
  refine mb_l_cons ⟨mm_imul _, ml_imul _⟩ ?_
  refine mb_l_cons ⟨mm_ild _ _, ml_ild _ _⟩ ?_
  refine mb_l_cons ⟨mm_iadd _, ml_iadd _⟩ ?_
  refine mb_l_cons ⟨mm_ild _ _, ml_ild _ _⟩ ?_
  refine mb_l_cons ⟨mm_callv _ _ _ _ _, ml_callv _ _ _ _ _⟩ ?_
  refine mb_l_cons ⟨mm_iadd _, ml_iadd _⟩ ?_
  refine mb_l_cons ⟨mm_ist _ _, ml_ist _ _⟩ ?_
  refine mb_l_cons ⟨mm_ald _ _, ml_ald _ _⟩ ?_
  refine mb_l_cons ⟨mm_getf _ _ _, ml_getf _ _ _⟩ ?_
  refine mb_l_cons ⟨mm_push _ _, ml_push _ _⟩ ?_
  refine mb_l_cons ⟨mm_ild _ _, ml_ild _ _⟩ ?_
  refine mb_l_cons ⟨mm_imul _, ml_imul _⟩ ?_
  refine mb_l_cons ⟨mm_ild _ _, ml_ild _ _⟩ ?_
  refine mb_l_cons ⟨mm_iadd _, ml_iadd _⟩ ?_
  refine mb_l_cons ⟨mm_iald _, ml_iald _⟩ ?_
  refine mb_l_cons ⟨mm_ist _ _, ml_ist _ _⟩ ?_
  refine mb_l_cons ⟨mm_go _, ml_go _⟩ ?_
  refine mb_l_cons ⟨mm_ild _ _, ml_ild _ _⟩ ?_
  refine mb_l_cons ⟨mm_iret, ml_iret⟩ ?_
  exact mb_l_nil
theorem mz_X8_asset : ∀ pc i, mb_look mc_X8_asset pc = some i → mb_Mon i ∧ mb_Le i := by
  unfold mc_X8_asset
  refine mb_l_cons ⟨mm_ald _ _, ml_ald _ _⟩ ?_
  refine mb_l_cons ⟨mm_ald _ _, ml_ald _ _⟩ ?_
  refine mb_l_cons ⟨mm_getf _ _ _, ml_getf _ _ _⟩ ?_
  refine mb_l_cons ⟨mm_push _ _, ml_push _ _⟩ ?_
  refine mb_l_cons ⟨mm_if2 _ _ _, ml_if2 _ _ _⟩ ?_
  refine mb_l_cons ⟨mm_push _ _, ml_push _ _⟩ ?_
  refine mb_l_cons ⟨mm_go _, ml_go _⟩ ?_
  refine mb_l_cons ⟨mm_push _ _, ml_push _ _⟩ ?_
  refine mb_l_cons ⟨mm_callv _ _ _ _ _, ml_callv _ _ _ _ _⟩ ?_
  refine mb_l_cons ⟨mm_if1 _ _ _, ml_if1 _ _ _⟩ ?_
  refine mb_l_cons ⟨mm_push _ _, ml_push _ _⟩ ?_
  refine mb_l_cons ⟨mm_iret, ml_iret⟩ ?_
  refine mb_l_cons ⟨mm_ald _ _, ml_ald _ _⟩ ?_
  refine mb_l_cons ⟨mm_dup _, ml_dup _⟩ ?_
  refine mb_l_cons ⟨mm_getf _ _ _, ml_getf _ _ _⟩ ?_
  refine mb_l_cons ⟨mm_push _ _, ml_push _ _⟩ ?_
  refine mb_l_cons ⟨mm_iadd _, ml_iadd _⟩ ?_
  refine mb_l_cons ⟨mm_putf _ _ _ _, ml_putf _ _ _ _⟩ ?_
  refine mb_l_cons ⟨mm_ald _ _, ml_ald _ _⟩ ?_
  refine mb_l_cons ⟨mm_getf _ _ _, ml_getf _ _ _⟩ ?_
  refine mb_l_cons ⟨mm_push _ _, ml_push _ _⟩ ?_
  refine mb_l_cons ⟨mm_isub _, ml_isub _⟩ ?_
  refine mb_l_cons ⟨mm_iret, ml_iret⟩ ?_
  exact mb_l_nil
theorem mz_X8_bone : ∀ pc i, mb_look mc_X8_bone pc = some i → mb_Mon i ∧ mb_Le i := by
  unfold mc_X8_bone
  refine mb_l_cons ⟨mm_ald _ _, ml_ald _ _⟩ ?_
  refine mb_l_cons ⟨mm_ild _ _, ml_ild _ _⟩ ?_
  refine mb_l_cons ⟨mm_callv _ _ _ _ _, ml_callv _ _ _ _ _⟩ ?_
  refine mb_l_cons ⟨mm_if1 _ _ _, ml_if1 _ _ _⟩ ?_
  refine mb_l_cons ⟨mm_ild _ _, ml_ild _ _⟩ ?_
  refine mb_l_cons ⟨mm_push _ _, ml_push _ _⟩ ?_
  refine mb_l_cons ⟨mm_if2 _ _ _, ml_if2 _ _ _⟩ ?_
  refine mb_l_cons ⟨mm_ald _ _, ml_ald _ _⟩ ?_
  refine mb_l_cons ⟨mm_ild _ _, ml_ild _ _⟩ ?_
  refine mb_l_cons ⟨mm_push _ _, ml_push _ _⟩ ?_
  refine mb_l_cons ⟨mm_ild _ _, ml_ild _ _⟩ ?_
  refine mb_l_cons ⟨mm_callv _ _ _ _ _, ml_callv _ _ _ _ _⟩ ?_
  refine mb_l_cons ⟨mm_if1 _ _ _, ml_if1 _ _ _⟩ ?_
  refine mb_l_cons ⟨mm_push _ _, ml_push _ _⟩ ?_
  refine mb_l_cons ⟨mm_go _, ml_go _⟩ ?_
  refine mb_l_cons ⟨mm_push _ _, ml_push _ _⟩ ?_
  refine mb_l_cons ⟨mm_ist _ _, ml_ist _ _⟩ ?_
  refine mb_l_cons ⟨mm_ald _ _, ml_ald _ _⟩ ?_
  refine mb_l_cons ⟨mm_ild _ _, ml_ild _ _⟩ ?_
  refine mb_l_cons ⟨mm_if1 _ _ _, ml_if1 _ _ _⟩ ?_
  refine mb_l_cons ⟨mm_push _ _, ml_push _ _⟩ ?_
  refine mb_l_cons ⟨mm_go _, ml_go _⟩ ?_
  refine mb_l_cons ⟨mm_ald _ _, ml_ald _ _⟩ ?_
  refine mb_l_cons ⟨mm_getf _ _ _, ml_getf _ _ _⟩ ?_
  refine mb_l_cons ⟨mm_ild _ _, ml_ild _ _⟩ ?_
  refine mb_l_cons ⟨mm_iald _, ml_iald _⟩ ?_
  refine mb_l_cons ⟨mm_push _ _, ml_push _ _⟩ ?_
  refine mb_l_cons ⟨mm_if2 _ _ _, ml_if2 _ _ _⟩ ?_
  refine mb_l_cons ⟨mm_push _ _, ml_push _ _⟩ ?_
  refine mb_l_cons ⟨mm_go _, ml_go _⟩ ?_
  refine mb_l_cons ⟨mm_push _ _, ml_push _ _⟩ ?_
  refine mb_l_cons ⟨mm_callv _ _ _ _ _, ml_callv _ _ _ _ _⟩ ?_
  refine mb_l_cons ⟨mm_if1 _ _ _, ml_if1 _ _ _⟩ ?_
  refine mb_l_cons ⟨mm_push _ _, ml_push _ _⟩ ?_
  refine mb_l_cons ⟨mm_iret, ml_iret⟩ ?_
  refine mb_l_cons ⟨mm_ald _ _, ml_ald _ _⟩ ?_
  refine mb_l_cons ⟨mm_getf _ _ _, ml_getf _ _ _⟩ ?_
  refine mb_l_cons ⟨mm_push _ _, ml_push _ _⟩ ?_
  refine mb_l_cons ⟨mm_ild _ _, ml_ild _ _⟩ ?_
  refine mb_l_cons ⟨mm_imul _, ml_imul _⟩ ?_
  refine mb_l_cons ⟨mm_ald _ _, ml_ald _ _⟩ ?_
  refine mb_l_cons ⟨mm_getf _ _ _, ml_getf _ _ _⟩ ?_
  refine mb_l_cons ⟨mm_ild _ _, ml_ild _ _⟩ ?_
  refine mb_l_cons ⟨mm_iald _, ml_iald _⟩ ?_
  refine mb_l_cons ⟨mm_iadd _, ml_iadd _⟩ ?_
  refine mb_l_cons ⟨mm_ild _ _, ml_ild _ _⟩ ?_
  refine mb_l_cons ⟨mm_iast _, ml_iast _⟩ ?_
  refine mb_l_cons ⟨mm_ald _ _, ml_ald _ _⟩ ?_
  refine mb_l_cons ⟨mm_getf _ _ _, ml_getf _ _ _⟩ ?_
  refine mb_l_cons ⟨mm_ild _ _, ml_ild _ _⟩ ?_
  refine mb_l_cons ⟨mm_dup2 _, ml_dup2 _⟩ ?_
  refine mb_l_cons ⟨mm_iald _, ml_iald _⟩ ?_
  refine mb_l_cons ⟨mm_push _ _, ml_push _ _⟩ ?_
  refine mb_l_cons ⟨mm_iadd _, ml_iadd _⟩ ?_
  refine mb_l_cons ⟨mm_iast _, ml_iast _⟩ ?_
  refine mb_l_cons ⟨mm_ald _ _, ml_ald _ _⟩ ?_
  refine mb_l_cons ⟨mm_getf _ _ _, ml_getf _ _ _⟩ ?_
  refine mb_l_cons ⟨mm_ild _ _, ml_ild _ _⟩ ?_
  refine mb_l_cons ⟨mm_iald _, ml_iald _⟩ ?_
  refine mb_l_cons ⟨mm_push _ _, ml_push _ _⟩ ?_
  refine mb_l_cons ⟨mm_isub _, ml_isub _⟩ ?_
  refine mb_l_cons ⟨mm_iret, ml_iret⟩ ?_
  exact mb_l_nil
theorem mz_X8_laysKey : ∀ pc i, mb_look mc_X8_laysKey pc = some i → mb_Mon i ∧ mb_Le i := by
  unfold mc_X8_laysKey
  refine mb_l_cons ⟨mm_ald _ _, ml_ald _ _⟩ ?_
  refine mb_l_cons ⟨mm_getf _ _ _, ml_getf _ _ _⟩ ?_
  refine mb_l_cons ⟨mm_ild _ _, ml_ild _ _⟩ ?_
  refine mb_l_cons ⟨mm_ild _ _, ml_ild _ _⟩ ?_
  refine mb_l_cons ⟨mm_iast _, ml_iast _⟩ ?_
  refine mb_l_cons ⟨mm_ald _ _, ml_ald _ _⟩ ?_
  refine mb_l_cons ⟨mm_getf _ _ _, ml_getf _ _ _⟩ ?_
  refine mb_l_cons ⟨mm_ild _ _, ml_ild _ _⟩ ?_
  refine mb_l_cons ⟨mm_ild _ _, ml_ild _ _⟩ ?_
  refine mb_l_cons ⟨mm_iast _, ml_iast _⟩ ?_
  refine mb_l_cons ⟨mm_ald _ _, ml_ald _ _⟩ ?_
  refine mb_l_cons ⟨mm_getf _ _ _, ml_getf _ _ _⟩ ?_
  refine mb_l_cons ⟨mm_ild _ _, ml_ild _ _⟩ ?_
  refine mb_l_cons ⟨mm_ild _ _, ml_ild _ _⟩ ?_
  refine mb_l_cons ⟨mm_iast _, ml_iast _⟩ ?_
  refine mb_l_cons ⟨mm_vret, ml_vret⟩ ?_
  exact mb_l_nil
theorem mz_X8_copiesKey : ∀ pc i, mb_look mc_X8_copiesKey pc = some i → mb_Mon i ∧ mb_Le i := by
  unfold mc_X8_copiesKey
  refine mb_l_cons ⟨mm_ald _ _, ml_ald _ _⟩ ?_
  refine mb_l_cons ⟨mm_ild _ _, ml_ild _ _⟩ ?_
  refine mb_l_cons ⟨mm_ald _ _, ml_ald _ _⟩ ?_
  refine mb_l_cons ⟨mm_getf _ _ _, ml_getf _ _ _⟩ ?_
  refine mb_l_cons ⟨mm_ild _ _, ml_ild _ _⟩ ?_
  refine mb_l_cons ⟨mm_iald _, ml_iald _⟩ ?_
  refine mb_l_cons ⟨mm_ald _ _, ml_ald _ _⟩ ?_
  refine mb_l_cons ⟨mm_getf _ _ _, ml_getf _ _ _⟩ ?_
  refine mb_l_cons ⟨mm_ild _ _, ml_ild _ _⟩ ?_
  refine mb_l_cons ⟨mm_iald _, ml_iald _⟩ ?_
  refine mb_l_cons ⟨mm_ald _ _, ml_ald _ _⟩ ?_
  refine mb_l_cons ⟨mm_getf _ _ _, ml_getf _ _ _⟩ ?_
  refine mb_l_cons ⟨mm_ild _ _, ml_ild _ _⟩ ?_
  refine mb_l_cons ⟨mm_iald _, ml_iald _⟩ ?_
  refine mb_l_cons ⟨mm_callv _ _ _ _ _, ml_callv _ _ _ _ _⟩ ?_
  refine mb_l_cons ⟨mm_vret, ml_vret⟩ ?_
  exact mb_l_nil
theorem mz_X8_key : ∀ pc i, mb_look mc_X8_key pc = some i → mb_Mon i ∧ mb_Le i := by
  unfold mc_X8_key
  refine mb_l_cons ⟨mm_ald _ _, ml_ald _ _⟩ ?_
  refine mb_l_cons ⟨mm_ild _ _, ml_ild _ _⟩ ?_
  refine mb_l_cons ⟨mm_push _ _, ml_push _ _⟩ ?_
  refine mb_l_cons ⟨mm_ild _ _, ml_ild _ _⟩ ?_
  refine mb_l_cons ⟨mm_callv _ _ _ _ _, ml_callv _ _ _ _ _⟩ ?_
  refine mb_l_cons ⟨mm_ist _ _, ml_ist _ _⟩ ?_
  refine mb_l_cons ⟨mm_ild _ _, ml_ild _ _⟩ ?_
  refine mb_l_cons ⟨mm_push _ _, ml_push _ _⟩ ?_
  refine mb_l_cons ⟨mm_push _ _, ml_push _ _⟩ ?_
  refine mb_l_cons ⟨mm_calls _ _ _, ml_calls _ _ _⟩ ?_
  refine mb_l_cons ⟨mm_if1 _ _ _, ml_if1 _ _ _⟩ ?_
  refine mb_l_cons ⟨mm_ild _ _, ml_ild _ _⟩ ?_
  refine mb_l_cons ⟨mm_push _ _, ml_push _ _⟩ ?_
  refine mb_l_cons ⟨mm_push _ _, ml_push _ _⟩ ?_
  refine mb_l_cons ⟨mm_calls _ _ _, ml_calls _ _ _⟩ ?_
  refine mb_l_cons ⟨mm_if1 _ _ _, ml_if1 _ _ _⟩ ?_
  refine mb_l_cons ⟨mm_ild _ _, ml_ild _ _⟩ ?_
  refine mb_l_cons ⟨mm_push _ _, ml_push _ _⟩ ?_
  refine mb_l_cons ⟨mm_push _ _, ml_push _ _⟩ ?_
  refine mb_l_cons ⟨mm_calls _ _ _, ml_calls _ _ _⟩ ?_
  refine mb_l_cons ⟨mm_if1 _ _ _, ml_if1 _ _ _⟩ ?_
  refine mb_l_cons ⟨mm_push _ _, ml_push _ _⟩ ?_
  refine mb_l_cons ⟨mm_go _, ml_go _⟩ ?_
  refine mb_l_cons ⟨mm_push _ _, ml_push _ _⟩ ?_
  refine mb_l_cons ⟨mm_ist _ _, ml_ist _ _⟩ ?_
  refine mb_l_cons ⟨mm_ild _ _, ml_ild _ _⟩ ?_
  refine mb_l_cons ⟨mm_if1 _ _ _, ml_if1 _ _ _⟩ ?_
  refine mb_l_cons ⟨mm_push _ _, ml_push _ _⟩ ?_
  refine mb_l_cons ⟨mm_ild _ _, ml_ild _ _⟩ ?_
  refine mb_l_cons ⟨mm_imul _, ml_imul _⟩ ?_
  refine mb_l_cons ⟨mm_ild _ _, ml_ild _ _⟩ ?_
  refine mb_l_cons ⟨mm_iadd _, ml_iadd _⟩ ?_
  refine mb_l_cons ⟨mm_go _, ml_go _⟩ ?_
  refine mb_l_cons ⟨mm_push _ _, ml_push _ _⟩ ?_
  refine mb_l_cons ⟨mm_ist _ _, ml_ist _ _⟩ ?_
  refine mb_l_cons ⟨mm_ald _ _, ml_ald _ _⟩ ?_
  refine mb_l_cons ⟨mm_ild _ _, ml_ild _ _⟩ ?_
  refine mb_l_cons ⟨mm_if1 _ _ _, ml_if1 _ _ _⟩ ?_
  refine mb_l_cons ⟨mm_push _ _, ml_push _ _⟩ ?_
  refine mb_l_cons ⟨mm_go _, ml_go _⟩ ?_
  refine mb_l_cons ⟨mm_ild _ _, ml_ild _ _⟩ ?_
  refine mb_l_cons ⟨mm_if1 _ _ _, ml_if1 _ _ _⟩ ?_
  refine mb_l_cons ⟨mm_push _ _, ml_push _ _⟩ ?_
  refine mb_l_cons ⟨mm_go _, ml_go _⟩ ?_
  refine mb_l_cons ⟨mm_ald _ _, ml_ald _ _⟩ ?_
  refine mb_l_cons ⟨mm_getf _ _ _, ml_getf _ _ _⟩ ?_
  refine mb_l_cons ⟨mm_ild _ _, ml_ild _ _⟩ ?_
  refine mb_l_cons ⟨mm_iald _, ml_iald _⟩ ?_
  refine mb_l_cons ⟨mm_push _ _, ml_push _ _⟩ ?_
  refine mb_l_cons ⟨mm_if2 _ _ _, ml_if2 _ _ _⟩ ?_
  refine mb_l_cons ⟨mm_ald _ _, ml_ald _ _⟩ ?_
  refine mb_l_cons ⟨mm_ild _ _, ml_ild _ _⟩ ?_
  refine mb_l_cons ⟨mm_ild _ _, ml_ild _ _⟩ ?_
  refine mb_l_cons ⟨mm_callv _ _ _ _ _, ml_callv _ _ _ _ _⟩ ?_
  refine mb_l_cons ⟨mm_if1 _ _ _, ml_if1 _ _ _⟩ ?_
  refine mb_l_cons ⟨mm_push _ _, ml_push _ _⟩ ?_
  refine mb_l_cons ⟨mm_go _, ml_go _⟩ ?_
  refine mb_l_cons ⟨mm_push _ _, ml_push _ _⟩ ?_
  refine mb_l_cons ⟨mm_callv _ _ _ _ _, ml_callv _ _ _ _ _⟩ ?_
  refine mb_l_cons ⟨mm_if1 _ _ _, ml_if1 _ _ _⟩ ?_
  refine mb_l_cons ⟨mm_push _ _, ml_push _ _⟩ ?_
  refine mb_l_cons ⟨mm_iret, ml_iret⟩ ?_
  refine mb_l_cons ⟨mm_ald _ _, ml_ald _ _⟩ ?_
  refine mb_l_cons ⟨mm_ild _ _, ml_ild _ _⟩ ?_
  refine mb_l_cons ⟨mm_ild _ _, ml_ild _ _⟩ ?_
  refine mb_l_cons ⟨mm_callv _ _ _ _ _, ml_callv _ _ _ _ _⟩ ?_
  refine mb_l_cons ⟨mm_ist _ _, ml_ist _ _⟩ ?_
  refine mb_l_cons ⟨mm_ald _ _, ml_ald _ _⟩ ?_
  refine mb_l_cons ⟨mm_ild _ _, ml_ild _ _⟩ ?_
  refine mb_l_cons ⟨mm_ild _ _, ml_ild _ _⟩ ?_
  refine mb_l_cons ⟨mm_callv _ _ _ _ _, ml_callv _ _ _ _ _⟩ ?_
  refine mb_l_cons ⟨mm_if1 _ _ _, ml_if1 _ _ _⟩ ?_
  refine mb_l_cons ⟨mm_ald _ _, ml_ald _ _⟩ ?_
  refine mb_l_cons ⟨mm_getf _ _ _, ml_getf _ _ _⟩ ?_
  refine mb_l_cons ⟨mm_ild _ _, ml_ild _ _⟩ ?_
  refine mb_l_cons ⟨mm_iald _, ml_iald _⟩ ?_
  refine mb_l_cons ⟨mm_ist _ _, ml_ist _ _⟩ ?_
  refine mb_l_cons ⟨mm_ild _ _, ml_ild _ _⟩ ?_
  refine mb_l_cons ⟨mm_ild _ _, ml_ild _ _⟩ ?_
  refine mb_l_cons ⟨mm_if2 _ _ _, ml_if2 _ _ _⟩ ?_
  refine mb_l_cons ⟨mm_ald _ _, ml_ald _ _⟩ ?_
  refine mb_l_cons ⟨mm_push _ _, ml_push _ _⟩ ?_
  refine mb_l_cons ⟨mm_ild _ _, ml_ild _ _⟩ ?_
  refine mb_l_cons ⟨mm_imul _, ml_imul _⟩ ?_
  refine mb_l_cons ⟨mm_ild _ _, ml_ild _ _⟩ ?_
  refine mb_l_cons ⟨mm_iadd _, ml_iadd _⟩ ?_
  refine mb_l_cons ⟨mm_push _ _, ml_push _ _⟩ ?_
  refine mb_l_cons ⟨mm_isub _, ml_isub _⟩ ?_
  refine mb_l_cons ⟨mm_push _ _, ml_push _ _⟩ ?_
  refine mb_l_cons ⟨mm_ild _ _, ml_ild _ _⟩ ?_
  refine mb_l_cons ⟨mm_imul _, ml_imul _⟩ ?_
  refine mb_l_cons ⟨mm_ild _ _, ml_ild _ _⟩ ?_
  refine mb_l_cons ⟨mm_iadd _, ml_iadd _⟩ ?_
  refine mb_l_cons ⟨mm_callv _ _ _ _ _, ml_callv _ _ _ _ _⟩ ?_
  refine mb_l_cons ⟨mm_iinc _ _ _, ml_iinc _ _ _⟩ ?_
  refine mb_l_cons ⟨mm_go _, ml_go _⟩ ?_
  refine mb_l_cons ⟨mm_ald _ _, ml_ald _ _⟩ ?_
  refine mb_l_cons ⟨mm_getf _ _ _, ml_getf _ _ _⟩ ?_
  refine mb_l_cons ⟨mm_ild _ _, ml_ild _ _⟩ ?_
  refine mb_l_cons ⟨mm_dup2 _, ml_dup2 _⟩ ?_
  refine mb_l_cons ⟨mm_iald _, ml_iald _⟩ ?_
  refine mb_l_cons ⟨mm_push _ _, ml_push _ _⟩ ?_
  refine mb_l_cons ⟨mm_iadd _, ml_iadd _⟩ ?_
  refine mb_l_cons ⟨mm_iast _, ml_iast _⟩ ?_
  refine mb_l_cons ⟨mm_ald _ _, ml_ald _ _⟩ ?_
  refine mb_l_cons ⟨mm_push _ _, ml_push _ _⟩ ?_
  refine mb_l_cons ⟨mm_ild _ _, ml_ild _ _⟩ ?_
  refine mb_l_cons ⟨mm_imul _, ml_imul _⟩ ?_
  refine mb_l_cons ⟨mm_ild _ _, ml_ild _ _⟩ ?_
  refine mb_l_cons ⟨mm_iadd _, ml_iadd _⟩ ?_
  refine mb_l_cons ⟨mm_ild _ _, ml_ild _ _⟩ ?_
  refine mb_l_cons ⟨mm_ild _ _, ml_ild _ _⟩ ?_
  refine mb_l_cons ⟨mm_ild _ _, ml_ild _ _⟩ ?_
  refine mb_l_cons ⟨mm_callv _ _ _ _ _, ml_callv _ _ _ _ _⟩ ?_
  refine mb_l_cons ⟨mm_ald _ _, ml_ald _ _⟩ ?_
  refine mb_l_cons ⟨mm_getf _ _ _, ml_getf _ _ _⟩ ?_
  refine mb_l_cons ⟨mm_ild _ _, ml_ild _ _⟩ ?_
  refine mb_l_cons ⟨mm_iald _, ml_iald _⟩ ?_
  refine mb_l_cons ⟨mm_iret, ml_iret⟩ ?_
  exact mb_l_nil
theorem mz_X8_unkey : ∀ pc i, mb_look mc_X8_unkey pc = some i → mb_Mon i ∧ mb_Le i := by
  unfold mc_X8_unkey
  refine mb_l_cons ⟨mm_ald _ _, ml_ald _ _⟩ ?_
  refine mb_l_cons ⟨mm_ild _ _, ml_ild _ _⟩ ?_
  refine mb_l_cons ⟨mm_push _ _, ml_push _ _⟩ ?_
  refine mb_l_cons ⟨mm_ild _ _, ml_ild _ _⟩ ?_
  refine mb_l_cons ⟨mm_callv _ _ _ _ _, ml_callv _ _ _ _ _⟩ ?_
  refine mb_l_cons ⟨mm_ist _ _, ml_ist _ _⟩ ?_
  refine mb_l_cons ⟨mm_ild _ _, ml_ild _ _⟩ ?_
  refine mb_l_cons ⟨mm_if1 _ _ _, ml_if1 _ _ _⟩ ?_
  refine mb_l_cons ⟨mm_push _ _, ml_push _ _⟩ ?_
  refine mb_l_cons ⟨mm_ild _ _, ml_ild _ _⟩ ?_
  refine mb_l_cons ⟨mm_imul _, ml_imul _⟩ ?_
  refine mb_l_cons ⟨mm_ild _ _, ml_ild _ _⟩ ?_
  refine mb_l_cons ⟨mm_iadd _, ml_iadd _⟩ ?_
  refine mb_l_cons ⟨mm_go _, ml_go _⟩ ?_
  refine mb_l_cons ⟨mm_push _ _, ml_push _ _⟩ ?_
  refine mb_l_cons ⟨mm_ist _ _, ml_ist _ _⟩ ?_
  refine mb_l_cons ⟨mm_ald _ _, ml_ald _ _⟩ ?_
  refine mb_l_cons ⟨mm_ild _ _, ml_ild _ _⟩ ?_
  refine mb_l_cons ⟨mm_if1 _ _ _, ml_if1 _ _ _⟩ ?_
  refine mb_l_cons ⟨mm_push _ _, ml_push _ _⟩ ?_
  refine mb_l_cons ⟨mm_go _, ml_go _⟩ ?_
  refine mb_l_cons ⟨mm_ild _ _, ml_ild _ _⟩ ?_
  refine mb_l_cons ⟨mm_push _ _, ml_push _ _⟩ ?_
  refine mb_l_cons ⟨mm_push _ _, ml_push _ _⟩ ?_
  refine mb_l_cons ⟨mm_calls _ _ _, ml_calls _ _ _⟩ ?_
  refine mb_l_cons ⟨mm_if1 _ _ _, ml_if1 _ _ _⟩ ?_
  refine mb_l_cons ⟨mm_push _ _, ml_push _ _⟩ ?_
  refine mb_l_cons ⟨mm_go _, ml_go _⟩ ?_
  refine mb_l_cons ⟨mm_push _ _, ml_push _ _⟩ ?_
  refine mb_l_cons ⟨mm_callv _ _ _ _ _, ml_callv _ _ _ _ _⟩ ?_
  refine mb_l_cons ⟨mm_if1 _ _ _, ml_if1 _ _ _⟩ ?_
  refine mb_l_cons ⟨mm_ald _ _, ml_ald _ _⟩ ?_
  refine mb_l_cons ⟨mm_ild _ _, ml_ild _ _⟩ ?_
  refine mb_l_cons ⟨mm_ild _ _, ml_ild _ _⟩ ?_
  refine mb_l_cons ⟨mm_callv _ _ _ _ _, ml_callv _ _ _ _ _⟩ ?_
  refine mb_l_cons ⟨mm_if1 _ _ _, ml_if1 _ _ _⟩ ?_
  refine mb_l_cons ⟨mm_push _ _, ml_push _ _⟩ ?_
  refine mb_l_cons ⟨mm_zret, ml_zret⟩ ?_
  refine mb_l_cons ⟨mm_ald _ _, ml_ald _ _⟩ ?_
  refine mb_l_cons ⟨mm_getf _ _ _, ml_getf _ _ _⟩ ?_
  refine mb_l_cons ⟨mm_ild _ _, ml_ild _ _⟩ ?_
  refine mb_l_cons ⟨mm_dup2 _, ml_dup2 _⟩ ?_
  refine mb_l_cons ⟨mm_iald _, ml_iald _⟩ ?_
  refine mb_l_cons ⟨mm_push _ _, ml_push _ _⟩ ?_
  refine mb_l_cons ⟨mm_isub _, ml_isub _⟩ ?_
  refine mb_l_cons ⟨mm_iast _, ml_iast _⟩ ?_
  refine mb_l_cons ⟨mm_ald _ _, ml_ald _ _⟩ ?_
  refine mb_l_cons ⟨mm_ild _ _, ml_ild _ _⟩ ?_
  refine mb_l_cons ⟨mm_ild _ _, ml_ild _ _⟩ ?_
  refine mb_l_cons ⟨mm_callv _ _ _ _ _, ml_callv _ _ _ _ _⟩ ?_
  refine mb_l_cons ⟨mm_ist _ _, ml_ist _ _⟩ ?_
  refine mb_l_cons ⟨mm_ild _ _, ml_ild _ _⟩ ?_
  refine mb_l_cons ⟨mm_ald _ _, ml_ald _ _⟩ ?_
  refine mb_l_cons ⟨mm_getf _ _ _, ml_getf _ _ _⟩ ?_
  refine mb_l_cons ⟨mm_ild _ _, ml_ild _ _⟩ ?_
  refine mb_l_cons ⟨mm_iald _, ml_iald _⟩ ?_
  refine mb_l_cons ⟨mm_if2 _ _ _, ml_if2 _ _ _⟩ ?_
  refine mb_l_cons ⟨mm_ald _ _, ml_ald _ _⟩ ?_
  refine mb_l_cons ⟨mm_push _ _, ml_push _ _⟩ ?_
  refine mb_l_cons ⟨mm_ild _ _, ml_ild _ _⟩ ?_
  refine mb_l_cons ⟨mm_imul _, ml_imul _⟩ ?_
  refine mb_l_cons ⟨mm_ild _ _, ml_ild _ _⟩ ?_
  refine mb_l_cons ⟨mm_iadd _, ml_iadd _⟩ ?_
  refine mb_l_cons ⟨mm_push _ _, ml_push _ _⟩ ?_
  refine mb_l_cons ⟨mm_iadd _, ml_iadd _⟩ ?_
  refine mb_l_cons ⟨mm_push _ _, ml_push _ _⟩ ?_
  refine mb_l_cons ⟨mm_ild _ _, ml_ild _ _⟩ ?_
  refine mb_l_cons ⟨mm_imul _, ml_imul _⟩ ?_
  refine mb_l_cons ⟨mm_ild _ _, ml_ild _ _⟩ ?_
  refine mb_l_cons ⟨mm_iadd _, ml_iadd _⟩ ?_
  refine mb_l_cons ⟨mm_callv _ _ _ _ _, ml_callv _ _ _ _ _⟩ ?_
  refine mb_l_cons ⟨mm_iinc _ _ _, ml_iinc _ _ _⟩ ?_
  refine mb_l_cons ⟨mm_go _, ml_go _⟩ ?_
  refine mb_l_cons ⟨mm_push _ _, ml_push _ _⟩ ?_
  refine mb_l_cons ⟨mm_zret, ml_zret⟩ ?_
  exact mb_l_nil
theorem mz_X8_publish : ∀ pc i, mb_look mc_X8_publish pc = some i → mb_Mon i ∧ mb_Le i := by
  unfold mc_X8_publish
  refine mb_l_cons ⟨mm_ald _ _, ml_ald _ _⟩ ?_
  refine mb_l_cons ⟨mm_ild _ _, ml_ild _ _⟩ ?_
  refine mb_l_cons ⟨mm_callv _ _ _ _ _, ml_callv _ _ _ _ _⟩ ?_
  refine mb_l_cons ⟨mm_ist _ _, ml_ist _ _⟩ ?_
  refine mb_l_cons ⟨mm_ald _ _, ml_ald _ _⟩ ?_
  refine mb_l_cons ⟨mm_ild _ _, ml_ild _ _⟩ ?_
  refine mb_l_cons ⟨mm_if1 _ _ _, ml_if1 _ _ _⟩ ?_
  refine mb_l_cons ⟨mm_push _ _, ml_push _ _⟩ ?_
  refine mb_l_cons ⟨mm_go _, ml_go _⟩ ?_
  refine mb_l_cons ⟨mm_ald _ _, ml_ald _ _⟩ ?_
  refine mb_l_cons ⟨mm_getf _ _ _, ml_getf _ _ _⟩ ?_
  refine mb_l_cons ⟨mm_ild _ _, ml_ild _ _⟩ ?_
  refine mb_l_cons ⟨mm_iald _, ml_iald _⟩ ?_
  refine mb_l_cons ⟨mm_push _ _, ml_push _ _⟩ ?_
  refine mb_l_cons ⟨mm_if2 _ _ _, ml_if2 _ _ _⟩ ?_
  refine mb_l_cons ⟨mm_ald _ _, ml_ald _ _⟩ ?_
  refine mb_l_cons ⟨mm_getf _ _ _, ml_getf _ _ _⟩ ?_
  refine mb_l_cons ⟨mm_ild _ _, ml_ild _ _⟩ ?_
  refine mb_l_cons ⟨mm_iald _, ml_iald _⟩ ?_
  refine mb_l_cons ⟨mm_if1 _ _ _, ml_if1 _ _ _⟩ ?_
  refine mb_l_cons ⟨mm_push _ _, ml_push _ _⟩ ?_
  refine mb_l_cons ⟨mm_go _, ml_go _⟩ ?_
  refine mb_l_cons ⟨mm_push _ _, ml_push _ _⟩ ?_
  refine mb_l_cons ⟨mm_callv _ _ _ _ _, ml_callv _ _ _ _ _⟩ ?_
  refine mb_l_cons ⟨mm_if1 _ _ _, ml_if1 _ _ _⟩ ?_
  refine mb_l_cons ⟨mm_push _ _, ml_push _ _⟩ ?_
  refine mb_l_cons ⟨mm_iret, ml_iret⟩ ?_
  refine mb_l_cons ⟨mm_ild _ _, ml_ild _ _⟩ ?_
  refine mb_l_cons ⟨mm_ald _ _, ml_ald _ _⟩ ?_
  refine mb_l_cons ⟨mm_getf _ _ _, ml_getf _ _ _⟩ ?_
  refine mb_l_cons ⟨mm_ild _ _, ml_ild _ _⟩ ?_
  refine mb_l_cons ⟨mm_iald _, ml_iald _⟩ ?_
  refine mb_l_cons ⟨mm_calls _ _ _, ml_calls _ _ _⟩ ?_
  refine mb_l_cons ⟨mm_ist _ _, ml_ist _ _⟩ ?_
  refine mb_l_cons ⟨mm_ald _ _, ml_ald _ _⟩ ?_
  refine mb_l_cons ⟨mm_getf _ _ _, ml_getf _ _ _⟩ ?_
  refine mb_l_cons ⟨mm_ild _ _, ml_ild _ _⟩ ?_
  refine mb_l_cons ⟨mm_ald _ _, ml_ald _ _⟩ ?_
  refine mb_l_cons ⟨mm_getf _ _ _, ml_getf _ _ _⟩ ?_
  refine mb_l_cons ⟨mm_ild _ _, ml_ild _ _⟩ ?_
  refine mb_l_cons ⟨mm_iald _, ml_iald _⟩ ?_
  refine mb_l_cons ⟨mm_iast _, ml_iast _⟩ ?_
  refine mb_l_cons ⟨mm_push _ _, ml_push _ _⟩ ?_
  refine mb_l_cons ⟨mm_ist _ _, ml_ist _ _⟩ ?_
  refine mb_l_cons ⟨mm_ild _ _, ml_ild _ _⟩ ?_
  refine mb_l_cons ⟨mm_ald _ _, ml_ald _ _⟩ ?_
  refine mb_l_cons ⟨mm_getf _ _ _, ml_getf _ _ _⟩ ?_
  refine mb_l_cons ⟨mm_ild _ _, ml_ild _ _⟩ ?_
  refine mb_l_cons ⟨mm_iald _, ml_iald _⟩ ?_
  refine mb_l_cons ⟨mm_if2 _ _ _, ml_if2 _ _ _⟩ ?_
  refine mb_l_cons ⟨mm_push _ _, ml_push _ _⟩ ?_
  refine mb_l_cons ⟨mm_ild _ _, ml_ild _ _⟩ ?_
  refine mb_l_cons ⟨mm_imul _, ml_imul _⟩ ?_
  refine mb_l_cons ⟨mm_ild _ _, ml_ild _ _⟩ ?_
  refine mb_l_cons ⟨mm_iadd _, ml_iadd _⟩ ?_
  refine mb_l_cons ⟨mm_ist _ _, ml_ist _ _⟩ ?_
  refine mb_l_cons ⟨mm_push _ _, ml_push _ _⟩ ?_
  refine mb_l_cons ⟨mm_ild _ _, ml_ild _ _⟩ ?_
  refine mb_l_cons ⟨mm_imul _, ml_imul _⟩ ?_
  refine mb_l_cons ⟨mm_ild _ _, ml_ild _ _⟩ ?_
  refine mb_l_cons ⟨mm_iadd _, ml_iadd _⟩ ?_
  refine mb_l_cons ⟨mm_ist _ _, ml_ist _ _⟩ ?_
  refine mb_l_cons ⟨mm_ald _ _, ml_ald _ _⟩ ?_
  refine mb_l_cons ⟨mm_getf _ _ _, ml_getf _ _ _⟩ ?_
  refine mb_l_cons ⟨mm_ild _ _, ml_ild _ _⟩ ?_
  refine mb_l_cons ⟨mm_ald _ _, ml_ald _ _⟩ ?_
  refine mb_l_cons ⟨mm_getf _ _ _, ml_getf _ _ _⟩ ?_
  refine mb_l_cons ⟨mm_ild _ _, ml_ild _ _⟩ ?_
  refine mb_l_cons ⟨mm_iald _, ml_iald _⟩ ?_
  refine mb_l_cons ⟨mm_iast _, ml_iast _⟩ ?_
  refine mb_l_cons ⟨mm_ald _ _, ml_ald _ _⟩ ?_
  refine mb_l_cons ⟨mm_getf _ _ _, ml_getf _ _ _⟩ ?_
  refine mb_l_cons ⟨mm_ild _ _, ml_ild _ _⟩ ?_
  refine mb_l_cons ⟨mm_ald _ _, ml_ald _ _⟩ ?_
  refine mb_l_cons ⟨mm_getf _ _ _, ml_getf _ _ _⟩ ?_
  refine mb_l_cons ⟨mm_ild _ _, ml_ild _ _⟩ ?_
  refine mb_l_cons ⟨mm_iald _, ml_iald _⟩ ?_
  refine mb_l_cons ⟨mm_iast _, ml_iast _⟩ ?_
  refine mb_l_cons ⟨mm_push _ _, ml_push _ _⟩ ?_
  refine mb_l_cons ⟨mm_ist _ _, ml_ist _ _⟩ ?_
  refine mb_l_cons ⟨mm_ild _ _, ml_ild _ _⟩ ?_
  refine mb_l_cons ⟨mm_ald _ _, ml_ald _ _⟩ ?_
  refine mb_l_cons ⟨mm_getf _ _ _, ml_getf _ _ _⟩ ?_
  refine mb_l_cons ⟨mm_ild _ _, ml_ild _ _⟩ ?_
  refine mb_l_cons ⟨mm_iald _, ml_iald _⟩ ?_
  refine mb_l_cons ⟨mm_if2 _ _ _, ml_if2 _ _ _⟩ ?_
  refine mb_l_cons ⟨mm_ald _ _, ml_ald _ _⟩ ?_
  refine mb_l_cons ⟨mm_push _ _, ml_push _ _⟩ ?_
  refine mb_l_cons ⟨mm_ild _ _, ml_ild _ _⟩ ?_
  refine mb_l_cons ⟨mm_imul _, ml_imul _⟩ ?_
  refine mb_l_cons ⟨mm_ild _ _, ml_ild _ _⟩ ?_
  refine mb_l_cons ⟨mm_iadd _, ml_iadd _⟩ ?_
  refine mb_l_cons ⟨mm_push _ _, ml_push _ _⟩ ?_
  refine mb_l_cons ⟨mm_ild _ _, ml_ild _ _⟩ ?_
  refine mb_l_cons ⟨mm_imul _, ml_imul _⟩ ?_
  refine mb_l_cons ⟨mm_ild _ _, ml_ild _ _⟩ ?_
  refine mb_l_cons ⟨mm_iadd _, ml_iadd _⟩ ?_
  refine mb_l_cons ⟨mm_callv _ _ _ _ _, ml_callv _ _ _ _ _⟩ ?_
  refine mb_l_cons ⟨mm_iinc _ _ _, ml_iinc _ _ _⟩ ?_
  refine mb_l_cons ⟨mm_go _, ml_go _⟩ ?_
  refine mb_l_cons ⟨mm_iinc _ _ _, ml_iinc _ _ _⟩ ?_
  refine mb_l_cons ⟨mm_go _, ml_go _⟩ ?_
  refine mb_l_cons ⟨mm_ald _ _, ml_ald _ _⟩ ?_
  refine mb_l_cons ⟨mm_getf _ _ _, ml_getf _ _ _⟩ ?_
  refine mb_l_cons ⟨mm_ild _ _, ml_ild _ _⟩ ?_
  refine mb_l_cons ⟨mm_dup2 _, ml_dup2 _⟩ ?_
  refine mb_l_cons ⟨mm_iald _, ml_iald _⟩ ?_
  refine mb_l_cons ⟨mm_push _ _, ml_push _ _⟩ ?_
  refine mb_l_cons ⟨mm_iadd _, ml_iadd _⟩ ?_
  refine mb_l_cons ⟨mm_iast _, ml_iast _⟩ ?_
  refine mb_l_cons ⟨mm_ald _ _, ml_ald _ _⟩ ?_
  refine mb_l_cons ⟨mm_getf _ _ _, ml_getf _ _ _⟩ ?_
  refine mb_l_cons ⟨mm_ild _ _, ml_ild _ _⟩ ?_
  refine mb_l_cons ⟨mm_iald _, ml_iald _⟩ ?_
  refine mb_l_cons ⟨mm_push _ _, ml_push _ _⟩ ?_
  refine mb_l_cons ⟨mm_isub _, ml_isub _⟩ ?_
  refine mb_l_cons ⟨mm_iret, ml_iret⟩ ?_
  exact mb_l_nil
theorem mz_X8_poses : ∀ pc i, mb_look mc_X8_poses pc = some i → mb_Mon i ∧ mb_Le i := by
  unfold mc_X8_poses
  refine mb_l_cons ⟨mm_ald _ _, ml_ald _ _⟩ ?_
  refine mb_l_cons ⟨mm_ild _ _, ml_ild _ _⟩ ?_
  refine mb_l_cons ⟨mm_ild _ _, ml_ild _ _⟩ ?_
  refine mb_l_cons ⟨mm_ild _ _, ml_ild _ _⟩ ?_
  refine mb_l_cons ⟨mm_callv _ _ _ _ _, ml_callv _ _ _ _ _⟩ ?_
  refine mb_l_cons ⟨mm_ist _ _, ml_ist _ _⟩ ?_
  refine mb_l_cons ⟨mm_ald _ _, ml_ald _ _⟩ ?_
  refine mb_l_cons ⟨mm_ild _ _, ml_ild _ _⟩ ?_
  refine mb_l_cons ⟨mm_if1 _ _ _, ml_if1 _ _ _⟩ ?_
  refine mb_l_cons ⟨mm_push _ _, ml_push _ _⟩ ?_
  refine mb_l_cons ⟨mm_go _, ml_go _⟩ ?_
  refine mb_l_cons ⟨mm_ild _ _, ml_ild _ _⟩ ?_
  refine mb_l_cons ⟨mm_push _ _, ml_push _ _⟩ ?_
  refine mb_l_cons ⟨mm_push _ _, ml_push _ _⟩ ?_
  refine mb_l_cons ⟨mm_calls _ _ _, ml_calls _ _ _⟩ ?_
  refine mb_l_cons ⟨mm_if1 _ _ _, ml_if1 _ _ _⟩ ?_
  refine mb_l_cons ⟨mm_push _ _, ml_push _ _⟩ ?_
  refine mb_l_cons ⟨mm_go _, ml_go _⟩ ?_
  refine mb_l_cons ⟨mm_push _ _, ml_push _ _⟩ ?_
  refine mb_l_cons ⟨mm_callv _ _ _ _ _, ml_callv _ _ _ _ _⟩ ?_
  refine mb_l_cons ⟨mm_if1 _ _ _, ml_if1 _ _ _⟩ ?_
  refine mb_l_cons ⟨mm_ald _ _, ml_ald _ _⟩ ?_
  refine mb_l_cons ⟨mm_ild _ _, ml_ild _ _⟩ ?_
  refine mb_l_cons ⟨mm_ild _ _, ml_ild _ _⟩ ?_
  refine mb_l_cons ⟨mm_calls _ _ _, ml_calls _ _ _⟩ ?_
  refine mb_l_cons ⟨mm_ild _ _, ml_ild _ _⟩ ?_
  refine mb_l_cons ⟨mm_ild _ _, ml_ild _ _⟩ ?_
  refine mb_l_cons ⟨mm_callv _ _ _ _ _, ml_callv _ _ _ _ _⟩ ?_
  refine mb_l_cons ⟨mm_go _, ml_go _⟩ ?_
  refine mb_l_cons ⟨mm_push _ _, ml_push _ _⟩ ?_
  refine mb_l_cons ⟨mm_iret, ml_iret⟩ ?_
  exact mb_l_nil
theorem mz_X8_pose : ∀ pc i, mb_look mc_X8_pose pc = some i → mb_Mon i ∧ mb_Le i := by
  unfold mc_X8_pose
  refine mb_l_cons ⟨mm_ald _ _, ml_ald _ _⟩ ?_
  refine mb_l_cons ⟨mm_ild _ _, ml_ild _ _⟩ ?_
  refine mb_l_cons ⟨mm_ild _ _, ml_ild _ _⟩ ?_
  refine mb_l_cons ⟨mm_ild _ _, ml_ild _ _⟩ ?_
  refine mb_l_cons ⟨mm_ild _ _, ml_ild _ _⟩ ?_
  refine mb_l_cons ⟨mm_callv _ _ _ _ _, ml_callv _ _ _ _ _⟩ ?_
  refine mb_l_cons ⟨mm_iret, ml_iret⟩ ?_
  exact mb_l_nil
theorem mz_X8_poseAnew : ∀ pc i, mb_look mc_X8_poseAnew pc = some i → mb_Mon i ∧ mb_Le i := by
  unfold mc_X8_poseAnew
  refine mb_l_cons ⟨mm_ald _ _, ml_ald _ _⟩ ?_
  refine mb_l_cons ⟨mm_ild _ _, ml_ild _ _⟩ ?_
  refine mb_l_cons ⟨mm_ild _ _, ml_ild _ _⟩ ?_
  refine mb_l_cons ⟨mm_ild _ _, ml_ild _ _⟩ ?_
  refine mb_l_cons ⟨mm_ild _ _, ml_ild _ _⟩ ?_
  refine mb_l_cons ⟨mm_callv _ _ _ _ _, ml_callv _ _ _ _ _⟩ ?_
  refine mb_l_cons ⟨mm_iret, ml_iret⟩ ?_
  exact mb_l_nil
theorem mz_X8_castsOf : ∀ pc i, mb_look mc_X8_castsOf pc = some i → mb_Mon i ∧ mb_Le i := by
  unfold mc_X8_castsOf
  refine mb_l_cons ⟨mm_push _ _, ml_push _ _⟩ ?_
  refine mb_l_cons ⟨mm_ist _ _, ml_ist _ _⟩ ?_
  refine mb_l_cons ⟨mm_push _ _, ml_push _ _⟩ ?_
  refine mb_l_cons ⟨mm_ist _ _, ml_ist _ _⟩ ?_
  refine mb_l_cons ⟨mm_ild _ _, ml_ild _ _⟩ ?_
  refine mb_l_cons ⟨mm_ald _ _, ml_ald _ _⟩ ?_
  refine mb_l_cons ⟨mm_getf _ _ _, ml_getf _ _ _⟩ ?_
  refine mb_l_cons ⟨mm_if2 _ _ _, ml_if2 _ _ _⟩ ?_
  refine mb_l_cons ⟨mm_ild _ _, ml_ild _ _⟩ ?_
  refine mb_l_cons ⟨mm_ald _ _, ml_ald _ _⟩ ?_
  refine mb_l_cons ⟨mm_getf _ _ _, ml_getf _ _ _⟩ ?_
  refine mb_l_cons ⟨mm_push _ _, ml_push _ _⟩ ?_
  refine mb_l_cons ⟨mm_ild _ _, ml_ild _ _⟩ ?_
  refine mb_l_cons ⟨mm_imul _, ml_imul _⟩ ?_
  refine mb_l_cons ⟨mm_ild _ _, ml_ild _ _⟩ ?_
  refine mb_l_cons ⟨mm_iadd _, ml_iadd _⟩ ?_
  refine mb_l_cons ⟨mm_zald _, ml_zald _⟩ ?_
  refine mb_l_cons ⟨mm_if1 _ _ _, ml_if1 _ _ _⟩ ?_
  refine mb_l_cons ⟨mm_push _ _, ml_push _ _⟩ ?_
  refine mb_l_cons ⟨mm_go _, ml_go _⟩ ?_
  refine mb_l_cons ⟨mm_push _ _, ml_push _ _⟩ ?_
  refine mb_l_cons ⟨mm_iadd _, ml_iadd _⟩ ?_
  refine mb_l_cons ⟨mm_ist _ _, ml_ist _ _⟩ ?_
  refine mb_l_cons ⟨mm_iinc _ _ _, ml_iinc _ _ _⟩ ?_
  refine mb_l_cons ⟨mm_go _, ml_go _⟩ ?_
  refine mb_l_cons ⟨mm_ild _ _, ml_ild _ _⟩ ?_
  refine mb_l_cons ⟨mm_iret, ml_iret⟩ ?_
  exact mb_l_nil
theorem mz_X8_ofAsset : ∀ pc i, mb_look mc_X8_ofAsset pc = some i → mb_Mon i ∧ mb_Le i := by
  unfold mc_X8_ofAsset
  refine mb_l_cons ⟨mm_ald _ _, ml_ald _ _⟩ ?_
  refine mb_l_cons ⟨mm_ald _ _, ml_ald _ _⟩ ?_
  refine mb_l_cons ⟨mm_ild _ _, ml_ild _ _⟩ ?_
  refine mb_l_cons ⟨mm_callv _ _ _ _ _, ml_callv _ _ _ _ _⟩ ?_
  refine mb_l_cons ⟨mm_if1 _ _ _, ml_if1 _ _ _⟩ ?_
  refine mb_l_cons ⟨mm_ild _ _, ml_ild _ _⟩ ?_
  refine mb_l_cons ⟨mm_push _ _, ml_push _ _⟩ ?_
  refine mb_l_cons ⟨mm_push _ _, ml_push _ _⟩ ?_
  refine mb_l_cons ⟨mm_calls _ _ _, ml_calls _ _ _⟩ ?_
  refine mb_l_cons ⟨mm_if1 _ _ _, ml_if1 _ _ _⟩ ?_
  refine mb_l_cons ⟨mm_push _ _, ml_push _ _⟩ ?_
  refine mb_l_cons ⟨mm_go _, ml_go _⟩ ?_
  refine mb_l_cons ⟨mm_push _ _, ml_push _ _⟩ ?_
  refine mb_l_cons ⟨mm_callv _ _ _ _ _, ml_callv _ _ _ _ _⟩ ?_
  refine mb_l_cons ⟨mm_if1 _ _ _, ml_if1 _ _ _⟩ ?_
  refine mb_l_cons ⟨mm_push _ _, ml_push _ _⟩ ?_
  refine mb_l_cons ⟨mm_iret, ml_iret⟩ ?_
  refine mb_l_cons ⟨mm_ild _ _, ml_ild _ _⟩ ?_
  refine mb_l_cons ⟨mm_if1 _ _ _, ml_if1 _ _ _⟩ ?_
  refine mb_l_cons ⟨mm_ald _ _, ml_ald _ _⟩ ?_
  refine mb_l_cons ⟨mm_getf _ _ _, ml_getf _ _ _⟩ ?_
  refine mb_l_cons ⟨mm_ild _ _, ml_ild _ _⟩ ?_
  refine mb_l_cons ⟨mm_iald _, ml_iald _⟩ ?_
  refine mb_l_cons ⟨mm_go _, ml_go _⟩ ?_
  refine mb_l_cons ⟨mm_ild _ _, ml_ild _ _⟩ ?_
  refine mb_l_cons ⟨mm_push _ _, ml_push _ _⟩ ?_
  refine mb_l_cons ⟨mm_if2 _ _ _, ml_if2 _ _ _⟩ ?_
  refine mb_l_cons ⟨mm_ald _ _, ml_ald _ _⟩ ?_
  refine mb_l_cons ⟨mm_getf _ _ _, ml_getf _ _ _⟩ ?_
  refine mb_l_cons ⟨mm_ild _ _, ml_ild _ _⟩ ?_
  refine mb_l_cons ⟨mm_iald _, ml_iald _⟩ ?_
  refine mb_l_cons ⟨mm_go _, ml_go _⟩ ?_
  refine mb_l_cons ⟨mm_ald _ _, ml_ald _ _⟩ ?_
  refine mb_l_cons ⟨mm_ild _ _, ml_ild _ _⟩ ?_
  refine mb_l_cons ⟨mm_callv _ _ _ _ _, ml_callv _ _ _ _ _⟩ ?_
  refine mb_l_cons ⟨mm_iret, ml_iret⟩ ?_
  exact mb_l_nil
theorem mz_X8_scene : ∀ pc i, mb_look mc_X8_scene pc = some i → mb_Mon i ∧ mb_Le i := by
  unfold mc_X8_scene
  refine mb_l_cons ⟨mm_ald _ _, ml_ald _ _⟩ ?_
  refine mb_l_cons ⟨mm_ild _ _, ml_ild _ _⟩ ?_
  refine mb_l_cons ⟨mm_push _ _, ml_push _ _⟩ ?_
  refine mb_l_cons ⟨mm_push _ _, ml_push _ _⟩ ?_
  refine mb_l_cons ⟨mm_calls _ _ _, ml_calls _ _ _⟩ ?_
  refine mb_l_cons ⟨mm_if1 _ _ _, ml_if1 _ _ _⟩ ?_
  refine mb_l_cons ⟨mm_push _ _, ml_push _ _⟩ ?_
  refine mb_l_cons ⟨mm_go _, ml_go _⟩ ?_
  refine mb_l_cons ⟨mm_ald _ _, ml_ald _ _⟩ ?_
  refine mb_l_cons ⟨mm_getf _ _ _, ml_getf _ _ _⟩ ?_
  refine mb_l_cons ⟨mm_push _ _, ml_push _ _⟩ ?_
  refine mb_l_cons ⟨mm_if2 _ _ _, ml_if2 _ _ _⟩ ?_
  refine mb_l_cons ⟨mm_push _ _, ml_push _ _⟩ ?_
  refine mb_l_cons ⟨mm_go _, ml_go _⟩ ?_
  refine mb_l_cons ⟨mm_push _ _, ml_push _ _⟩ ?_
  refine mb_l_cons ⟨mm_callv _ _ _ _ _, ml_callv _ _ _ _ _⟩ ?_
  refine mb_l_cons ⟨mm_if1 _ _ _, ml_if1 _ _ _⟩ ?_
  refine mb_l_cons ⟨mm_push _ _, ml_push _ _⟩ ?_
  refine mb_l_cons ⟨mm_iret, ml_iret⟩ ?_
  refine mb_l_cons ⟨mm_ald _ _, ml_ald _ _⟩ ?_
  refine mb_l_cons ⟨mm_getf _ _ _, ml_getf _ _ _⟩ ?_
  refine mb_l_cons ⟨mm_ald _ _, ml_ald _ _⟩ ?_
  refine mb_l_cons ⟨mm_getf _ _ _, ml_getf _ _ _⟩ ?_
  refine mb_l_cons ⟨mm_ild _ _, ml_ild _ _⟩ ?_
  refine mb_l_cons ⟨mm_iast _, ml_iast _⟩ ?_
  refine mb_l_cons ⟨mm_push _ _, ml_push _ _⟩ ?_
  refine mb_l_cons ⟨mm_ist _ _, ml_ist _ _⟩ ?_
  refine mb_l_cons ⟨mm_ild _ _, ml_ild _ _⟩ ?_
  refine mb_l_cons ⟨mm_ild _ _, ml_ild _ _⟩ ?_
  refine mb_l_cons ⟨mm_if2 _ _ _, ml_if2 _ _ _⟩ ?_
  refine mb_l_cons ⟨mm_ald _ _, ml_ald _ _⟩ ?_
  refine mb_l_cons ⟨mm_getf _ _ _, ml_getf _ _ _⟩ ?_
  refine mb_l_cons ⟨mm_push _ _, ml_push _ _⟩ ?_
  refine mb_l_cons ⟨mm_ald _ _, ml_ald _ _⟩ ?_
  refine mb_l_cons ⟨mm_getf _ _ _, ml_getf _ _ _⟩ ?_
  refine mb_l_cons ⟨mm_imul _, ml_imul _⟩ ?_
  refine mb_l_cons ⟨mm_ild _ _, ml_ild _ _⟩ ?_
  refine mb_l_cons ⟨mm_iadd _, ml_iadd _⟩ ?_
  refine mb_l_cons ⟨mm_ild _ _, ml_ild _ _⟩ ?_
  refine mb_l_cons ⟨mm_iast _, ml_iast _⟩ ?_
  refine mb_l_cons ⟨mm_iinc _ _ _, ml_iinc _ _ _⟩ ?_
  refine mb_l_cons ⟨mm_go _, ml_go _⟩ ?_
  refine mb_l_cons ⟨mm_ald _ _, ml_ald _ _⟩ ?_
  refine mb_l_cons ⟨mm_dup _, ml_dup _⟩ ?_
  refine mb_l_cons ⟨mm_getf _ _ _, ml_getf _ _ _⟩ ?_
  refine mb_l_cons ⟨mm_push _ _, ml_push _ _⟩ ?_
  refine mb_l_cons ⟨mm_iadd _, ml_iadd _⟩ ?_
  refine mb_l_cons ⟨mm_putf _ _ _ _, ml_putf _ _ _ _⟩ ?_
  refine mb_l_cons ⟨mm_ald _ _, ml_ald _ _⟩ ?_
  refine mb_l_cons ⟨mm_getf _ _ _, ml_getf _ _ _⟩ ?_
  refine mb_l_cons ⟨mm_push _ _, ml_push _ _⟩ ?_
  refine mb_l_cons ⟨mm_isub _, ml_isub _⟩ ?_
  refine mb_l_cons ⟨mm_iret, ml_iret⟩ ?_
  exact mb_l_nil
theorem mz_X8_cast : ∀ pc i, mb_look mc_X8_cast pc = some i → mb_Mon i ∧ mb_Le i := by
  unfold mc_X8_cast
  refine mb_l_cons ⟨mm_ald _ _, ml_ald _ _⟩ ?_
  refine mb_l_cons ⟨mm_ild _ _, ml_ild _ _⟩ ?_
  refine mb_l_cons ⟨mm_callv _ _ _ _ _, ml_callv _ _ _ _ _⟩ ?_
  refine mb_l_cons ⟨mm_if1 _ _ _, ml_if1 _ _ _⟩ ?_
  refine mb_l_cons ⟨mm_ald _ _, ml_ald _ _⟩ ?_
  refine mb_l_cons ⟨mm_ild _ _, ml_ild _ _⟩ ?_
  refine mb_l_cons ⟨mm_ild _ _, ml_ild _ _⟩ ?_
  refine mb_l_cons ⟨mm_callv _ _ _ _ _, ml_callv _ _ _ _ _⟩ ?_
  refine mb_l_cons ⟨mm_if1 _ _ _, ml_if1 _ _ _⟩ ?_
  refine mb_l_cons ⟨mm_push _ _, ml_push _ _⟩ ?_
  refine mb_l_cons ⟨mm_go _, ml_go _⟩ ?_
  refine mb_l_cons ⟨mm_push _ _, ml_push _ _⟩ ?_
  refine mb_l_cons ⟨mm_ist _ _, ml_ist _ _⟩ ?_
  refine mb_l_cons ⟨mm_ald _ _, ml_ald _ _⟩ ?_
  refine mb_l_cons ⟨mm_ild _ _, ml_ild _ _⟩ ?_
  refine mb_l_cons ⟨mm_if1 _ _ _, ml_if1 _ _ _⟩ ?_
  refine mb_l_cons ⟨mm_push _ _, ml_push _ _⟩ ?_
  refine mb_l_cons ⟨mm_go _, ml_go _⟩ ?_
  refine mb_l_cons ⟨mm_ild _ _, ml_ild _ _⟩ ?_
  refine mb_l_cons ⟨mm_push _ _, ml_push _ _⟩ ?_
  refine mb_l_cons ⟨mm_push _ _, ml_push _ _⟩ ?_
  refine mb_l_cons ⟨mm_calls _ _ _, ml_calls _ _ _⟩ ?_
  refine mb_l_cons ⟨mm_if1 _ _ _, ml_if1 _ _ _⟩ ?_
  refine mb_l_cons ⟨mm_ild _ _, ml_ild _ _⟩ ?_
  refine mb_l_cons ⟨mm_ild _ _, ml_ild _ _⟩ ?_
  refine mb_l_cons ⟨mm_push _ _, ml_push _ _⟩ ?_
  refine mb_l_cons ⟨mm_calls _ _ _, ml_calls _ _ _⟩ ?_
  refine mb_l_cons ⟨mm_if1 _ _ _, ml_if1 _ _ _⟩ ?_
  refine mb_l_cons ⟨mm_push _ _, ml_push _ _⟩ ?_
  refine mb_l_cons ⟨mm_go _, ml_go _⟩ ?_
  refine mb_l_cons ⟨mm_push _ _, ml_push _ _⟩ ?_
  refine mb_l_cons ⟨mm_callv _ _ _ _ _, ml_callv _ _ _ _ _⟩ ?_
  refine mb_l_cons ⟨mm_if1 _ _ _, ml_if1 _ _ _⟩ ?_
  refine mb_l_cons ⟨mm_push _ _, ml_push _ _⟩ ?_
  refine mb_l_cons ⟨mm_iret, ml_iret⟩ ?_
  refine mb_l_cons ⟨mm_push _ _, ml_push _ _⟩ ?_
  refine mb_l_cons ⟨mm_ild _ _, ml_ild _ _⟩ ?_
  refine mb_l_cons ⟨mm_imul _, ml_imul _⟩ ?_
  refine mb_l_cons ⟨mm_ild _ _, ml_ild _ _⟩ ?_
  refine mb_l_cons ⟨mm_iadd _, ml_iadd _⟩ ?_
  refine mb_l_cons ⟨mm_ist _ _, ml_ist _ _⟩ ?_
  refine mb_l_cons ⟨mm_ald _ _, ml_ald _ _⟩ ?_
  refine mb_l_cons ⟨mm_getf _ _ _, ml_getf _ _ _⟩ ?_
  refine mb_l_cons ⟨mm_ild _ _, ml_ild _ _⟩ ?_
  refine mb_l_cons ⟨mm_push _ _, ml_push _ _⟩ ?_
  refine mb_l_cons ⟨mm_zast _, ml_zast _⟩ ?_
  refine mb_l_cons ⟨mm_ald _ _, ml_ald _ _⟩ ?_
  refine mb_l_cons ⟨mm_getf _ _ _, ml_getf _ _ _⟩ ?_
  refine mb_l_cons ⟨mm_ild _ _, ml_ild _ _⟩ ?_
  refine mb_l_cons ⟨mm_ild _ _, ml_ild _ _⟩ ?_
  refine mb_l_cons ⟨mm_iast _, ml_iast _⟩ ?_
  refine mb_l_cons ⟨mm_ald _ _, ml_ald _ _⟩ ?_
  refine mb_l_cons ⟨mm_getf _ _ _, ml_getf _ _ _⟩ ?_
  refine mb_l_cons ⟨mm_ild _ _, ml_ild _ _⟩ ?_
  refine mb_l_cons ⟨mm_ild _ _, ml_ild _ _⟩ ?_
  refine mb_l_cons ⟨mm_iast _, ml_iast _⟩ ?_
  refine mb_l_cons ⟨mm_ald _ _, ml_ald _ _⟩ ?_
  refine mb_l_cons ⟨mm_getf _ _ _, ml_getf _ _ _⟩ ?_
  refine mb_l_cons ⟨mm_ild _ _, ml_ild _ _⟩ ?_
  refine mb_l_cons ⟨mm_ild _ _, ml_ild _ _⟩ ?_
  refine mb_l_cons ⟨mm_iast _, ml_iast _⟩ ?_
  refine mb_l_cons ⟨mm_push _ _, ml_push _ _⟩ ?_
  refine mb_l_cons ⟨mm_ist _ _, ml_ist _ _⟩ ?_
  refine mb_l_cons ⟨mm_push _ _, ml_push _ _⟩ ?_
  refine mb_l_cons ⟨mm_ist _ _, ml_ist _ _⟩ ?_
  refine mb_l_cons ⟨mm_ild _ _, ml_ild _ _⟩ ?_
  refine mb_l_cons ⟨mm_ald _ _, ml_ald _ _⟩ ?_
  refine mb_l_cons ⟨mm_getf _ _ _, ml_getf _ _ _⟩ ?_
  refine mb_l_cons ⟨mm_if2 _ _ _, ml_if2 _ _ _⟩ ?_
  refine mb_l_cons ⟨mm_ild _ _, ml_ild _ _⟩ ?_
  refine mb_l_cons ⟨mm_ald _ _, ml_ald _ _⟩ ?_
  refine mb_l_cons ⟨mm_getf _ _ _, ml_getf _ _ _⟩ ?_
  refine mb_l_cons ⟨mm_push _ _, ml_push _ _⟩ ?_
  refine mb_l_cons ⟨mm_ild _ _, ml_ild _ _⟩ ?_
  refine mb_l_cons ⟨mm_imul _, ml_imul _⟩ ?_
  refine mb_l_cons ⟨mm_ild _ _, ml_ild _ _⟩ ?_
  refine mb_l_cons ⟨mm_iadd _, ml_iadd _⟩ ?_
  refine mb_l_cons ⟨mm_zald _, ml_zald _⟩ ?_
  refine mb_l_cons ⟨mm_if1 _ _ _, ml_if1 _ _ _⟩ ?_
  refine mb_l_cons ⟨mm_push _ _, ml_push _ _⟩ ?_
  refine mb_l_cons ⟨mm_go _, ml_go _⟩ ?_
  refine mb_l_cons ⟨mm_push _ _, ml_push _ _⟩ ?_
  refine mb_l_cons ⟨mm_iadd _, ml_iadd _⟩ ?_
  refine mb_l_cons ⟨mm_ist _ _, ml_ist _ _⟩ ?_
  refine mb_l_cons ⟨mm_iinc _ _ _, ml_iinc _ _ _⟩ ?_
  refine mb_l_cons ⟨mm_go _, ml_go _⟩ ?_
  refine mb_l_cons ⟨mm_ild _ _, ml_ild _ _⟩ ?_
  refine mb_l_cons ⟨mm_iret, ml_iret⟩ ?_
  exact mb_l_nil
theorem mz_X8_goesTo : ∀ pc i, mb_look mc_X8_goesTo pc = some i → mb_Mon i ∧ mb_Le i := by
  unfold mc_X8_goesTo
  refine mb_l_cons ⟨mm_ald _ _, ml_ald _ _⟩ ?_
  refine mb_l_cons ⟨mm_getf _ _ _, ml_getf _ _ _⟩ ?_
  refine mb_l_cons ⟨mm_ild _ _, ml_ild _ _⟩ ?_
  refine mb_l_cons ⟨mm_ald _ _, ml_ald _ _⟩ ?_
  refine mb_l_cons ⟨mm_getf _ _ _, ml_getf _ _ _⟩ ?_
  refine mb_l_cons ⟨mm_ild _ _, ml_ild _ _⟩ ?_
  refine mb_l_cons ⟨mm_iald _, ml_iald _⟩ ?_
  refine mb_l_cons ⟨mm_iast _, ml_iast _⟩ ?_
  refine mb_l_cons ⟨mm_ald _ _, ml_ald _ _⟩ ?_
  refine mb_l_cons ⟨mm_getf _ _ _, ml_getf _ _ _⟩ ?_
  refine mb_l_cons ⟨mm_ild _ _, ml_ild _ _⟩ ?_
  refine mb_l_cons ⟨mm_ald _ _, ml_ald _ _⟩ ?_
  refine mb_l_cons ⟨mm_getf _ _ _, ml_getf _ _ _⟩ ?_
  refine mb_l_cons ⟨mm_ild _ _, ml_ild _ _⟩ ?_
  refine mb_l_cons ⟨mm_iald _, ml_iald _⟩ ?_
  refine mb_l_cons ⟨mm_iast _, ml_iast _⟩ ?_
  refine mb_l_cons ⟨mm_push _ _, ml_push _ _⟩ ?_
  refine mb_l_cons ⟨mm_ist _ _, ml_ist _ _⟩ ?_
  refine mb_l_cons ⟨mm_ild _ _, ml_ild _ _⟩ ?_
  refine mb_l_cons ⟨mm_push _ _, ml_push _ _⟩ ?_
  refine mb_l_cons ⟨mm_if2 _ _ _, ml_if2 _ _ _⟩ ?_
  refine mb_l_cons ⟨mm_ald _ _, ml_ald _ _⟩ ?_
  refine mb_l_cons ⟨mm_getf _ _ _, ml_getf _ _ _⟩ ?_
  refine mb_l_cons ⟨mm_push _ _, ml_push _ _⟩ ?_
  refine mb_l_cons ⟨mm_ild _ _, ml_ild _ _⟩ ?_
  refine mb_l_cons ⟨mm_imul _, ml_imul _⟩ ?_
  refine mb_l_cons ⟨mm_ild _ _, ml_ild _ _⟩ ?_
  refine mb_l_cons ⟨mm_iadd _, ml_iadd _⟩ ?_
  refine mb_l_cons ⟨mm_ald _ _, ml_ald _ _⟩ ?_
  refine mb_l_cons ⟨mm_getf _ _ _, ml_getf _ _ _⟩ ?_
  refine mb_l_cons ⟨mm_push _ _, ml_push _ _⟩ ?_
  refine mb_l_cons ⟨mm_ild _ _, ml_ild _ _⟩ ?_
  refine mb_l_cons ⟨mm_imul _, ml_imul _⟩ ?_
  refine mb_l_cons ⟨mm_ild _ _, ml_ild _ _⟩ ?_
  refine mb_l_cons ⟨mm_iadd _, ml_iadd _⟩ ?_
  refine mb_l_cons ⟨mm_iald _, ml_iald _⟩ ?_
  refine mb_l_cons ⟨mm_iast _, ml_iast _⟩ ?_
  refine mb_l_cons ⟨mm_ald _ _, ml_ald _ _⟩ ?_
  refine mb_l_cons ⟨mm_getf _ _ _, ml_getf _ _ _⟩ ?_
  refine mb_l_cons ⟨mm_push _ _, ml_push _ _⟩ ?_
  refine mb_l_cons ⟨mm_ild _ _, ml_ild _ _⟩ ?_
  refine mb_l_cons ⟨mm_imul _, ml_imul _⟩ ?_
  refine mb_l_cons ⟨mm_ild _ _, ml_ild _ _⟩ ?_
  refine mb_l_cons ⟨mm_iadd _, ml_iadd _⟩ ?_
  refine mb_l_cons ⟨mm_ald _ _, ml_ald _ _⟩ ?_
  refine mb_l_cons ⟨mm_getf _ _ _, ml_getf _ _ _⟩ ?_
  refine mb_l_cons ⟨mm_push _ _, ml_push _ _⟩ ?_
  refine mb_l_cons ⟨mm_ild _ _, ml_ild _ _⟩ ?_
  refine mb_l_cons ⟨mm_imul _, ml_imul _⟩ ?_
  refine mb_l_cons ⟨mm_ild _ _, ml_ild _ _⟩ ?_
  refine mb_l_cons ⟨mm_iadd _, ml_iadd _⟩ ?_
  refine mb_l_cons ⟨mm_iald _, ml_iald _⟩ ?_
  refine mb_l_cons ⟨mm_iast _, ml_iast _⟩ ?_
  refine mb_l_cons ⟨mm_iinc _ _ _, ml_iinc _ _ _⟩ ?_
  refine mb_l_cons ⟨mm_go _, ml_go _⟩ ?_
  refine mb_l_cons ⟨mm_push _ _, ml_push _ _⟩ ?_
  refine mb_l_cons ⟨mm_ist _ _, ml_ist _ _⟩ ?_
  refine mb_l_cons ⟨mm_ild _ _, ml_ild _ _⟩ ?_
  refine mb_l_cons ⟨mm_push _ _, ml_push _ _⟩ ?_
  refine mb_l_cons ⟨mm_if2 _ _ _, ml_if2 _ _ _⟩ ?_
  refine mb_l_cons ⟨mm_ald _ _, ml_ald _ _⟩ ?_
  refine mb_l_cons ⟨mm_getf _ _ _, ml_getf _ _ _⟩ ?_
  refine mb_l_cons ⟨mm_push _ _, ml_push _ _⟩ ?_
  refine mb_l_cons ⟨mm_ild _ _, ml_ild _ _⟩ ?_
  refine mb_l_cons ⟨mm_imul _, ml_imul _⟩ ?_
  refine mb_l_cons ⟨mm_ild _ _, ml_ild _ _⟩ ?_
  refine mb_l_cons ⟨mm_iadd _, ml_iadd _⟩ ?_
  refine mb_l_cons ⟨mm_ald _ _, ml_ald _ _⟩ ?_
  refine mb_l_cons ⟨mm_getf _ _ _, ml_getf _ _ _⟩ ?_
  refine mb_l_cons ⟨mm_push _ _, ml_push _ _⟩ ?_
  refine mb_l_cons ⟨mm_ild _ _, ml_ild _ _⟩ ?_
  refine mb_l_cons ⟨mm_imul _, ml_imul _⟩ ?_
  refine mb_l_cons ⟨mm_ild _ _, ml_ild _ _⟩ ?_
  refine mb_l_cons ⟨mm_iadd _, ml_iadd _⟩ ?_
  refine mb_l_cons ⟨mm_iald _, ml_iald _⟩ ?_
  refine mb_l_cons ⟨mm_iast _, ml_iast _⟩ ?_
  refine mb_l_cons ⟨mm_iinc _ _ _, ml_iinc _ _ _⟩ ?_
  refine mb_l_cons ⟨mm_go _, ml_go _⟩ ?_
  refine mb_l_cons ⟨mm_vret, ml_vret⟩ ?_
  exact mb_l_nil
theorem mz_X8_carries : ∀ pc i, mb_look mc_X8_carries pc = some i → mb_Mon i ∧ mb_Le i := by
  unfold mc_X8_carries
  refine mb_l_cons ⟨mm_ald _ _, ml_ald _ _⟩ ?_
  refine mb_l_cons ⟨mm_getf _ _ _, ml_getf _ _ _⟩ ?_
  refine mb_l_cons ⟨mm_ild _ _, ml_ild _ _⟩ ?_
  refine mb_l_cons ⟨mm_iald _, ml_iald _⟩ ?_
  refine mb_l_cons ⟨mm_ist _ _, ml_ist _ _⟩ ?_
  refine mb_l_cons ⟨mm_ild _ _, ml_ild _ _⟩ ?_
  refine mb_l_cons ⟨mm_ild _ _, ml_ild _ _⟩ ?_
  refine mb_l_cons ⟨mm_ild _ _, ml_ild _ _⟩ ?_
  refine mb_l_cons ⟨mm_iadd _, ml_iadd _⟩ ?_
  refine mb_l_cons ⟨mm_if2 _ _ _, ml_if2 _ _ _⟩ ?_
  refine mb_l_cons ⟨mm_ald _ _, ml_ald _ _⟩ ?_
  refine mb_l_cons ⟨mm_getf _ _ _, ml_getf _ _ _⟩ ?_
  refine mb_l_cons ⟨mm_ild _ _, ml_ild _ _⟩ ?_
  refine mb_l_cons ⟨mm_ild _ _, ml_ild _ _⟩ ?_
  refine mb_l_cons ⟨mm_ild _ _, ml_ild _ _⟩ ?_
  refine mb_l_cons ⟨mm_isub _, ml_isub _⟩ ?_
  refine mb_l_cons ⟨mm_iast _, ml_iast _⟩ ?_
  refine mb_l_cons ⟨mm_go _, ml_go _⟩ ?_
  refine mb_l_cons ⟨mm_ild _ _, ml_ild _ _⟩ ?_
  refine mb_l_cons ⟨mm_ild _ _, ml_ild _ _⟩ ?_
  refine mb_l_cons ⟨mm_if2 _ _ _, ml_if2 _ _ _⟩ ?_
  refine mb_l_cons ⟨mm_ald _ _, ml_ald _ _⟩ ?_
  refine mb_l_cons ⟨mm_getf _ _ _, ml_getf _ _ _⟩ ?_
  refine mb_l_cons ⟨mm_ild _ _, ml_ild _ _⟩ ?_
  refine mb_l_cons ⟨mm_ild _ _, ml_ild _ _⟩ ?_
  refine mb_l_cons ⟨mm_ild _ _, ml_ild _ _⟩ ?_
  refine mb_l_cons ⟨mm_if2 _ _ _, ml_if2 _ _ _⟩ ?_
  refine mb_l_cons ⟨mm_ild _ _, ml_ild _ _⟩ ?_
  refine mb_l_cons ⟨mm_go _, ml_go _⟩ ?_
  refine mb_l_cons ⟨mm_ild _ _, ml_ild _ _⟩ ?_
  refine mb_l_cons ⟨mm_push _ _, ml_push _ _⟩ ?_
  refine mb_l_cons ⟨mm_isub _, ml_isub _⟩ ?_
  refine mb_l_cons ⟨mm_iast _, ml_iast _⟩ ?_
  refine mb_l_cons ⟨mm_ald _ _, ml_ald _ _⟩ ?_
  refine mb_l_cons ⟨mm_getf _ _ _, ml_getf _ _ _⟩ ?_
  refine mb_l_cons ⟨mm_ild _ _, ml_ild _ _⟩ ?_
  refine mb_l_cons ⟨mm_dup2 _, ml_dup2 _⟩ ?_
  refine mb_l_cons ⟨mm_iald _, ml_iald _⟩ ?_
  refine mb_l_cons ⟨mm_push _ _, ml_push _ _⟩ ?_
  refine mb_l_cons ⟨mm_iadd _, ml_iadd _⟩ ?_
  refine mb_l_cons ⟨mm_iast _, ml_iast _⟩ ?_
  refine mb_l_cons ⟨mm_vret, ml_vret⟩ ?_
  exact mb_l_nil
theorem mz_X8_cut : ∀ pc i, mb_look mc_X8_cut pc = some i → mb_Mon i ∧ mb_Le i := by
  unfold mc_X8_cut
  refine mb_l_cons ⟨mm_ald _ _, ml_ald _ _⟩ ?_
  refine mb_l_cons ⟨mm_ild _ _, ml_ild _ _⟩ ?_
  refine mb_l_cons ⟨mm_ild _ _, ml_ild _ _⟩ ?_
  refine mb_l_cons ⟨mm_callv _ _ _ _ _, ml_callv _ _ _ _ _⟩ ?_
  refine mb_l_cons ⟨mm_ist _ _, ml_ist _ _⟩ ?_
  refine mb_l_cons ⟨mm_ild _ _, ml_ild _ _⟩ ?_
  refine mb_l_cons ⟨mm_if1 _ _ _, ml_if1 _ _ _⟩ ?_
  refine mb_l_cons ⟨mm_ild _ _, ml_ild _ _⟩ ?_
  refine mb_l_cons ⟨mm_ald _ _, ml_ald _ _⟩ ?_
  refine mb_l_cons ⟨mm_getf _ _ _, ml_getf _ _ _⟩ ?_
  refine mb_l_cons ⟨mm_ild _ _, ml_ild _ _⟩ ?_
  refine mb_l_cons ⟨mm_iald _, ml_iald _⟩ ?_
  refine mb_l_cons ⟨mm_ild _ _, ml_ild _ _⟩ ?_
  refine mb_l_cons ⟨mm_isub _, ml_isub _⟩ ?_
  refine mb_l_cons ⟨mm_if2 _ _ _, ml_if2 _ _ _⟩ ?_
  refine mb_l_cons ⟨mm_ild _ _, ml_ild _ _⟩ ?_
  refine mb_l_cons ⟨mm_ald _ _, ml_ald _ _⟩ ?_
  refine mb_l_cons ⟨mm_getf _ _ _, ml_getf _ _ _⟩ ?_
  refine mb_l_cons ⟨mm_ild _ _, ml_ild _ _⟩ ?_
  refine mb_l_cons ⟨mm_iald _, ml_iald _⟩ ?_
  refine mb_l_cons ⟨mm_if2 _ _ _, ml_if2 _ _ _⟩ ?_
  refine mb_l_cons ⟨mm_push _ _, ml_push _ _⟩ ?_
  refine mb_l_cons ⟨mm_go _, ml_go _⟩ ?_
  refine mb_l_cons ⟨mm_push _ _, ml_push _ _⟩ ?_
  refine mb_l_cons ⟨mm_ist _ _, ml_ist _ _⟩ ?_
  refine mb_l_cons ⟨mm_ald _ _, ml_ald _ _⟩ ?_
  refine mb_l_cons ⟨mm_ild _ _, ml_ild _ _⟩ ?_
  refine mb_l_cons ⟨mm_if1 _ _ _, ml_if1 _ _ _⟩ ?_
  refine mb_l_cons ⟨mm_push _ _, ml_push _ _⟩ ?_
  refine mb_l_cons ⟨mm_go _, ml_go _⟩ ?_
  refine mb_l_cons ⟨mm_ild _ _, ml_ild _ _⟩ ?_
  refine mb_l_cons ⟨mm_push _ _, ml_push _ _⟩ ?_
  refine mb_l_cons ⟨mm_if2 _ _ _, ml_if2 _ _ _⟩ ?_
  refine mb_l_cons ⟨mm_push _ _, ml_push _ _⟩ ?_
  refine mb_l_cons ⟨mm_go _, ml_go _⟩ ?_
  refine mb_l_cons ⟨mm_ild _ _, ml_ild _ _⟩ ?_
  refine mb_l_cons ⟨mm_if1 _ _ _, ml_if1 _ _ _⟩ ?_
  refine mb_l_cons ⟨mm_push _ _, ml_push _ _⟩ ?_
  refine mb_l_cons ⟨mm_go _, ml_go _⟩ ?_
  refine mb_l_cons ⟨mm_push _ _, ml_push _ _⟩ ?_
  refine mb_l_cons ⟨mm_callv _ _ _ _ _, ml_callv _ _ _ _ _⟩ ?_
  refine mb_l_cons ⟨mm_if1 _ _ _, ml_if1 _ _ _⟩ ?_
  refine mb_l_cons ⟨mm_push _ _, ml_push _ _⟩ ?_
  refine mb_l_cons ⟨mm_iret, ml_iret⟩ ?_
  refine mb_l_cons ⟨mm_ald _ _, ml_ald _ _⟩ ?_
  refine mb_l_cons ⟨mm_getf _ _ _, ml_getf _ _ _⟩ ?_
  refine mb_l_cons ⟨mm_ild _ _, ml_ild _ _⟩ ?_
  refine mb_l_cons ⟨mm_dup2 _, ml_dup2 _⟩ ?_
  refine mb_l_cons ⟨mm_iald _, ml_iald _⟩ ?_
  refine mb_l_cons ⟨mm_ild _ _, ml_ild _ _⟩ ?_
  refine mb_l_cons ⟨mm_isub _, ml_isub _⟩ ?_
  refine mb_l_cons ⟨mm_iast _, ml_iast _⟩ ?_
  refine mb_l_cons ⟨mm_ild _ _, ml_ild _ _⟩ ?_
  refine mb_l_cons ⟨mm_ist _ _, ml_ist _ _⟩ ?_
  refine mb_l_cons ⟨mm_ild _ _, ml_ild _ _⟩ ?_
  refine mb_l_cons ⟨mm_ald _ _, ml_ald _ _⟩ ?_
  refine mb_l_cons ⟨mm_getf _ _ _, ml_getf _ _ _⟩ ?_
  refine mb_l_cons ⟨mm_ild _ _, ml_ild _ _⟩ ?_
  refine mb_l_cons ⟨mm_iald _, ml_iald _⟩ ?_
  refine mb_l_cons ⟨mm_if2 _ _ _, ml_if2 _ _ _⟩ ?_
  refine mb_l_cons ⟨mm_ald _ _, ml_ald _ _⟩ ?_
  refine mb_l_cons ⟨mm_push _ _, ml_push _ _⟩ ?_
  refine mb_l_cons ⟨mm_ild _ _, ml_ild _ _⟩ ?_
  refine mb_l_cons ⟨mm_imul _, ml_imul _⟩ ?_
  refine mb_l_cons ⟨mm_ild _ _, ml_ild _ _⟩ ?_
  refine mb_l_cons ⟨mm_iadd _, ml_iadd _⟩ ?_
  refine mb_l_cons ⟨mm_ild _ _, ml_ild _ _⟩ ?_
  refine mb_l_cons ⟨mm_iadd _, ml_iadd _⟩ ?_
  refine mb_l_cons ⟨mm_push _ _, ml_push _ _⟩ ?_
  refine mb_l_cons ⟨mm_ild _ _, ml_ild _ _⟩ ?_
  refine mb_l_cons ⟨mm_imul _, ml_imul _⟩ ?_
  refine mb_l_cons ⟨mm_ild _ _, ml_ild _ _⟩ ?_
  refine mb_l_cons ⟨mm_iadd _, ml_iadd _⟩ ?_
  refine mb_l_cons ⟨mm_callv _ _ _ _ _, ml_callv _ _ _ _ _⟩ ?_
  refine mb_l_cons ⟨mm_iinc _ _ _, ml_iinc _ _ _⟩ ?_
  refine mb_l_cons ⟨mm_go _, ml_go _⟩ ?_
  refine mb_l_cons ⟨mm_push _ _, ml_push _ _⟩ ?_
  refine mb_l_cons ⟨mm_ist _ _, ml_ist _ _⟩ ?_
  refine mb_l_cons ⟨mm_ild _ _, ml_ild _ _⟩ ?_
  refine mb_l_cons ⟨mm_ald _ _, ml_ald _ _⟩ ?_
  refine mb_l_cons ⟨mm_getf _ _ _, ml_getf _ _ _⟩ ?_
  refine mb_l_cons ⟨mm_if2 _ _ _, ml_if2 _ _ _⟩ ?_
  refine mb_l_cons ⟨mm_ald _ _, ml_ald _ _⟩ ?_
  refine mb_l_cons ⟨mm_getf _ _ _, ml_getf _ _ _⟩ ?_
  refine mb_l_cons ⟨mm_ild _ _, ml_ild _ _⟩ ?_
  refine mb_l_cons ⟨mm_iald _, ml_iald _⟩ ?_
  refine mb_l_cons ⟨mm_ild _ _, ml_ild _ _⟩ ?_
  refine mb_l_cons ⟨mm_if2 _ _ _, ml_if2 _ _ _⟩ ?_
  refine mb_l_cons ⟨mm_ald _ _, ml_ald _ _⟩ ?_
  refine mb_l_cons ⟨mm_ild _ _, ml_ild _ _⟩ ?_
  refine mb_l_cons ⟨mm_ild _ _, ml_ild _ _⟩ ?_
  refine mb_l_cons ⟨mm_ild _ _, ml_ild _ _⟩ ?_
  refine mb_l_cons ⟨mm_ald _ _, ml_ald _ _⟩ ?_
  refine mb_l_cons ⟨mm_getf _ _ _, ml_getf _ _ _⟩ ?_
  refine mb_l_cons ⟨mm_ild _ _, ml_ild _ _⟩ ?_
  refine mb_l_cons ⟨mm_iald _, ml_iald _⟩ ?_
  refine mb_l_cons ⟨mm_callv _ _ _ _ _, ml_callv _ _ _ _ _⟩ ?_
  refine mb_l_cons ⟨mm_iinc _ _ _, ml_iinc _ _ _⟩ ?_
  refine mb_l_cons ⟨mm_go _, ml_go _⟩ ?_
  refine mb_l_cons ⟨mm_ald _ _, ml_ald _ _⟩ ?_
  refine mb_l_cons ⟨mm_getf _ _ _, ml_getf _ _ _⟩ ?_
  refine mb_l_cons ⟨mm_ild _ _, ml_ild _ _⟩ ?_
  refine mb_l_cons ⟨mm_iald _, ml_iald _⟩ ?_
  refine mb_l_cons ⟨mm_iret, ml_iret⟩ ?_
  exact mb_l_nil
theorem mz_X8_note : ∀ pc i, mb_look mc_X8_note pc = some i → mb_Mon i ∧ mb_Le i := by
  unfold mc_X8_note
  refine mb_l_cons ⟨mm_ald _ _, ml_ald _ _⟩ ?_
  refine mb_l_cons ⟨mm_ald _ _, ml_ald _ _⟩ ?_
  refine mb_l_cons ⟨mm_ild _ _, ml_ild _ _⟩ ?_
  refine mb_l_cons ⟨mm_ild _ _, ml_ild _ _⟩ ?_
  refine mb_l_cons ⟨mm_callv _ _ _ _ _, ml_callv _ _ _ _ _⟩ ?_
  refine mb_l_cons ⟨mm_if1 _ _ _, ml_if1 _ _ _⟩ ?_
  refine mb_l_cons ⟨mm_push _ _, ml_push _ _⟩ ?_
  refine mb_l_cons ⟨mm_go _, ml_go _⟩ ?_
  refine mb_l_cons ⟨mm_ald _ _, ml_ald _ _⟩ ?_
  refine mb_l_cons ⟨mm_getf _ _ _, ml_getf _ _ _⟩ ?_
  refine mb_l_cons ⟨mm_push _ _, ml_push _ _⟩ ?_
  refine mb_l_cons ⟨mm_if2 _ _ _, ml_if2 _ _ _⟩ ?_
  refine mb_l_cons ⟨mm_push _ _, ml_push _ _⟩ ?_
  refine mb_l_cons ⟨mm_go _, ml_go _⟩ ?_
  refine mb_l_cons ⟨mm_push _ _, ml_push _ _⟩ ?_
  refine mb_l_cons ⟨mm_callv _ _ _ _ _, ml_callv _ _ _ _ _⟩ ?_
  refine mb_l_cons ⟨mm_if1 _ _ _, ml_if1 _ _ _⟩ ?_
  refine mb_l_cons ⟨mm_push _ _, ml_push _ _⟩ ?_
  refine mb_l_cons ⟨mm_iret, ml_iret⟩ ?_
  refine mb_l_cons ⟨mm_ald _ _, ml_ald _ _⟩ ?_
  refine mb_l_cons ⟨mm_getf _ _ _, ml_getf _ _ _⟩ ?_
  refine mb_l_cons ⟨mm_ald _ _, ml_ald _ _⟩ ?_
  refine mb_l_cons ⟨mm_getf _ _ _, ml_getf _ _ _⟩ ?_
  refine mb_l_cons ⟨mm_ild _ _, ml_ild _ _⟩ ?_
  refine mb_l_cons ⟨mm_iast _, ml_iast _⟩ ?_
  refine mb_l_cons ⟨mm_ald _ _, ml_ald _ _⟩ ?_
  refine mb_l_cons ⟨mm_getf _ _ _, ml_getf _ _ _⟩ ?_
  refine mb_l_cons ⟨mm_ald _ _, ml_ald _ _⟩ ?_
  refine mb_l_cons ⟨mm_getf _ _ _, ml_getf _ _ _⟩ ?_
  refine mb_l_cons ⟨mm_ild _ _, ml_ild _ _⟩ ?_
  refine mb_l_cons ⟨mm_iast _, ml_iast _⟩ ?_
  refine mb_l_cons ⟨mm_ald _ _, ml_ald _ _⟩ ?_
  refine mb_l_cons ⟨mm_dup _, ml_dup _⟩ ?_
  refine mb_l_cons ⟨mm_getf _ _ _, ml_getf _ _ _⟩ ?_
  refine mb_l_cons ⟨mm_push _ _, ml_push _ _⟩ ?_
  refine mb_l_cons ⟨mm_iadd _, ml_iadd _⟩ ?_
  refine mb_l_cons ⟨mm_putf _ _ _ _, ml_putf _ _ _ _⟩ ?_
  refine mb_l_cons ⟨mm_ald _ _, ml_ald _ _⟩ ?_
  refine mb_l_cons ⟨mm_getf _ _ _, ml_getf _ _ _⟩ ?_
  refine mb_l_cons ⟨mm_push _ _, ml_push _ _⟩ ?_
  refine mb_l_cons ⟨mm_isub _, ml_isub _⟩ ?_
  refine mb_l_cons ⟨mm_iret, ml_iret⟩ ?_
  exact mb_l_nil
theorem mz_X8_unsettled : ∀ pc i, mb_look mc_X8_unsettled pc = some i → mb_Mon i ∧ mb_Le i := by
  unfold mc_X8_unsettled
  refine mb_l_cons ⟨mm_push _ _, ml_push _ _⟩ ?_
  refine mb_l_cons ⟨mm_ist _ _, ml_ist _ _⟩ ?_
  refine mb_l_cons ⟨mm_push _ _, ml_push _ _⟩ ?_
  refine mb_l_cons ⟨mm_ist _ _, ml_ist _ _⟩ ?_
  refine mb_l_cons ⟨mm_ild _ _, ml_ild _ _⟩ ?_
  refine mb_l_cons ⟨mm_ald _ _, ml_ald _ _⟩ ?_
  refine mb_l_cons ⟨mm_getf _ _ _, ml_getf _ _ _⟩ ?_
  refine mb_l_cons ⟨mm_if2 _ _ _, ml_if2 _ _ _⟩ ?_
  refine mb_l_cons ⟨mm_ild _ _, ml_ild _ _⟩ ?_
  refine mb_l_cons ⟨mm_ald _ _, ml_ald _ _⟩ ?_
  refine mb_l_cons ⟨mm_getf _ _ _, ml_getf _ _ _⟩ ?_
  refine mb_l_cons ⟨mm_ild _ _, ml_ild _ _⟩ ?_
  refine mb_l_cons ⟨mm_zald _, ml_zald _⟩ ?_
  refine mb_l_cons ⟨mm_if1 _ _ _, ml_if1 _ _ _⟩ ?_
  refine mb_l_cons ⟨mm_ild _ _, ml_ild _ _⟩ ?_
  refine mb_l_cons ⟨mm_push _ _, ml_push _ _⟩ ?_
  refine mb_l_cons ⟨mm_if2 _ _ _, ml_if2 _ _ _⟩ ?_
  refine mb_l_cons ⟨mm_ald _ _, ml_ald _ _⟩ ?_
  refine mb_l_cons ⟨mm_getf _ _ _, ml_getf _ _ _⟩ ?_
  refine mb_l_cons ⟨mm_ild _ _, ml_ild _ _⟩ ?_
  refine mb_l_cons ⟨mm_iald _, ml_iald _⟩ ?_
  refine mb_l_cons ⟨mm_ild _ _, ml_ild _ _⟩ ?_
  refine mb_l_cons ⟨mm_if2 _ _ _, ml_if2 _ _ _⟩ ?_
  refine mb_l_cons ⟨mm_ild _ _, ml_ild _ _⟩ ?_
  refine mb_l_cons ⟨mm_push _ _, ml_push _ _⟩ ?_
  refine mb_l_cons ⟨mm_if2 _ _ _, ml_if2 _ _ _⟩ ?_
  refine mb_l_cons ⟨mm_ald _ _, ml_ald _ _⟩ ?_
  refine mb_l_cons ⟨mm_getf _ _ _, ml_getf _ _ _⟩ ?_
  refine mb_l_cons ⟨mm_ild _ _, ml_ild _ _⟩ ?_
  refine mb_l_cons ⟨mm_iald _, ml_iald _⟩ ?_
  refine mb_l_cons ⟨mm_ild _ _, ml_ild _ _⟩ ?_
  refine mb_l_cons ⟨mm_if2 _ _ _, ml_if2 _ _ _⟩ ?_
  refine mb_l_cons ⟨mm_push _ _, ml_push _ _⟩ ?_
  refine mb_l_cons ⟨mm_go _, ml_go _⟩ ?_
  refine mb_l_cons ⟨mm_push _ _, ml_push _ _⟩ ?_
  refine mb_l_cons ⟨mm_iadd _, ml_iadd _⟩ ?_
  refine mb_l_cons ⟨mm_ist _ _, ml_ist _ _⟩ ?_
  refine mb_l_cons ⟨mm_iinc _ _ _, ml_iinc _ _ _⟩ ?_
  refine mb_l_cons ⟨mm_go _, ml_go _⟩ ?_
  refine mb_l_cons ⟨mm_ild _ _, ml_ild _ _⟩ ?_
  refine mb_l_cons ⟨mm_iret, ml_iret⟩ ?_
  exact mb_l_nil
theorem mz_X8_settle : ∀ pc i, mb_look mc_X8_settle pc = some i → mb_Mon i ∧ mb_Le i := by
  unfold mc_X8_settle
  refine mb_l_cons ⟨mm_ild _ _, ml_ild _ _⟩ ?_
  refine mb_l_cons ⟨mm_push _ _, ml_push _ _⟩ ?_
  refine mb_l_cons ⟨mm_ald _ _, ml_ald _ _⟩ ?_
  refine mb_l_cons ⟨mm_getf _ _ _, ml_getf _ _ _⟩ ?_
  refine mb_l_cons ⟨mm_push _ _, ml_push _ _⟩ ?_
  refine mb_l_cons ⟨mm_isub _, ml_isub _⟩ ?_
  refine mb_l_cons ⟨mm_calls _ _ _, ml_calls _ _ _⟩ ?_
  refine mb_l_cons ⟨mm_ist _ _, ml_ist _ _⟩ ?_
  refine mb_l_cons ⟨mm_ald _ _, ml_ald _ _⟩ ?_
  refine mb_l_cons ⟨mm_ild _ _, ml_ild _ _⟩ ?_
  refine mb_l_cons ⟨mm_if1 _ _ _, ml_if1 _ _ _⟩ ?_
  refine mb_l_cons ⟨mm_push _ _, ml_push _ _⟩ ?_
  refine mb_l_cons ⟨mm_go _, ml_go _⟩ ?_
  refine mb_l_cons ⟨mm_ald _ _, ml_ald _ _⟩ ?_
  refine mb_l_cons ⟨mm_getf _ _ _, ml_getf _ _ _⟩ ?_
  refine mb_l_cons ⟨mm_ild _ _, ml_ild _ _⟩ ?_
  refine mb_l_cons ⟨mm_zald _, ml_zald _⟩ ?_
  refine mb_l_cons ⟨mm_if1 _ _ _, ml_if1 _ _ _⟩ ?_
  refine mb_l_cons ⟨mm_push _ _, ml_push _ _⟩ ?_
  refine mb_l_cons ⟨mm_go _, ml_go _⟩ ?_
  refine mb_l_cons ⟨mm_push _ _, ml_push _ _⟩ ?_
  refine mb_l_cons ⟨mm_callv _ _ _ _ _, ml_callv _ _ _ _ _⟩ ?_
  refine mb_l_cons ⟨mm_if1 _ _ _, ml_if1 _ _ _⟩ ?_
  refine mb_l_cons ⟨mm_push _ _, ml_push _ _⟩ ?_
  refine mb_l_cons ⟨mm_iret, ml_iret⟩ ?_
  refine mb_l_cons ⟨mm_ald _ _, ml_ald _ _⟩ ?_
  refine mb_l_cons ⟨mm_getf _ _ _, ml_getf _ _ _⟩ ?_
  refine mb_l_cons ⟨mm_ild _ _, ml_ild _ _⟩ ?_
  refine mb_l_cons ⟨mm_push _ _, ml_push _ _⟩ ?_
  refine mb_l_cons ⟨mm_zast _, ml_zast _⟩ ?_
  refine mb_l_cons ⟨mm_ald _ _, ml_ald _ _⟩ ?_
  refine mb_l_cons ⟨mm_ald _ _, ml_ald _ _⟩ ?_
  refine mb_l_cons ⟨mm_getf _ _ _, ml_getf _ _ _⟩ ?_
  refine mb_l_cons ⟨mm_ild _ _, ml_ild _ _⟩ ?_
  refine mb_l_cons ⟨mm_iald _, ml_iald _⟩ ?_
  refine mb_l_cons ⟨mm_push _ _, ml_push _ _⟩ ?_
  refine mb_l_cons ⟨mm_callv _ _ _ _ _, ml_callv _ _ _ _ _⟩ ?_
  refine mb_l_cons ⟨mm_iret, ml_iret⟩ ?_
  exact mb_l_nil
theorem mz_X8_ofNote : ∀ pc i, mb_look mc_X8_ofNote pc = some i → mb_Mon i ∧ mb_Le i := by
  unfold mc_X8_ofNote
  refine mb_l_cons ⟨mm_ald _ _, ml_ald _ _⟩ ?_
  refine mb_l_cons ⟨mm_ild _ _, ml_ild _ _⟩ ?_
  refine mb_l_cons ⟨mm_push _ _, ml_push _ _⟩ ?_
  refine mb_l_cons ⟨mm_ald _ _, ml_ald _ _⟩ ?_
  refine mb_l_cons ⟨mm_getf _ _ _, ml_getf _ _ _⟩ ?_
  refine mb_l_cons ⟨mm_push _ _, ml_push _ _⟩ ?_
  refine mb_l_cons ⟨mm_isub _, ml_isub _⟩ ?_
  refine mb_l_cons ⟨mm_calls _ _ _, ml_calls _ _ _⟩ ?_
  refine mb_l_cons ⟨mm_if1 _ _ _, ml_if1 _ _ _⟩ ?_
  refine mb_l_cons ⟨mm_ild _ _, ml_ild _ _⟩ ?_
  refine mb_l_cons ⟨mm_push _ _, ml_push _ _⟩ ?_
  refine mb_l_cons ⟨mm_push _ _, ml_push _ _⟩ ?_
  refine mb_l_cons ⟨mm_calls _ _ _, ml_calls _ _ _⟩ ?_
  refine mb_l_cons ⟨mm_if1 _ _ _, ml_if1 _ _ _⟩ ?_
  refine mb_l_cons ⟨mm_push _ _, ml_push _ _⟩ ?_
  refine mb_l_cons ⟨mm_go _, ml_go _⟩ ?_
  refine mb_l_cons ⟨mm_push _ _, ml_push _ _⟩ ?_
  refine mb_l_cons ⟨mm_callv _ _ _ _ _, ml_callv _ _ _ _ _⟩ ?_
  refine mb_l_cons ⟨mm_if1 _ _ _, ml_if1 _ _ _⟩ ?_
  refine mb_l_cons ⟨mm_push _ _, ml_push _ _⟩ ?_
  refine mb_l_cons ⟨mm_iret, ml_iret⟩ ?_
  refine mb_l_cons ⟨mm_ild _ _, ml_ild _ _⟩ ?_
  refine mb_l_cons ⟨mm_if1 _ _ _, ml_if1 _ _ _⟩ ?_
  refine mb_l_cons ⟨mm_ald _ _, ml_ald _ _⟩ ?_
  refine mb_l_cons ⟨mm_getf _ _ _, ml_getf _ _ _⟩ ?_
  refine mb_l_cons ⟨mm_ild _ _, ml_ild _ _⟩ ?_
  refine mb_l_cons ⟨mm_iald _, ml_iald _⟩ ?_
  refine mb_l_cons ⟨mm_go _, ml_go _⟩ ?_
  refine mb_l_cons ⟨mm_ild _ _, ml_ild _ _⟩ ?_
  refine mb_l_cons ⟨mm_push _ _, ml_push _ _⟩ ?_
  refine mb_l_cons ⟨mm_if2 _ _ _, ml_if2 _ _ _⟩ ?_
  refine mb_l_cons ⟨mm_ald _ _, ml_ald _ _⟩ ?_
  refine mb_l_cons ⟨mm_getf _ _ _, ml_getf _ _ _⟩ ?_
  refine mb_l_cons ⟨mm_ild _ _, ml_ild _ _⟩ ?_
  refine mb_l_cons ⟨mm_iald _, ml_iald _⟩ ?_
  refine mb_l_cons ⟨mm_go _, ml_go _⟩ ?_
  refine mb_l_cons ⟨mm_ild _ _, ml_ild _ _⟩ ?_
  refine mb_l_cons ⟨mm_push _ _, ml_push _ _⟩ ?_
  refine mb_l_cons ⟨mm_if2 _ _ _, ml_if2 _ _ _⟩ ?_
  refine mb_l_cons ⟨mm_ald _ _, ml_ald _ _⟩ ?_
  refine mb_l_cons ⟨mm_getf _ _ _, ml_getf _ _ _⟩ ?_
  refine mb_l_cons ⟨mm_ild _ _, ml_ild _ _⟩ ?_
  refine mb_l_cons ⟨mm_zald _, ml_zald _⟩ ?_
  refine mb_l_cons ⟨mm_if1 _ _ _, ml_if1 _ _ _⟩ ?_
  refine mb_l_cons ⟨mm_push _ _, ml_push _ _⟩ ?_
  refine mb_l_cons ⟨mm_go _, ml_go _⟩ ?_
  refine mb_l_cons ⟨mm_push _ _, ml_push _ _⟩ ?_
  refine mb_l_cons ⟨mm_go _, ml_go _⟩ ?_
  refine mb_l_cons ⟨mm_ald _ _, ml_ald _ _⟩ ?_
  refine mb_l_cons ⟨mm_getf _ _ _, ml_getf _ _ _⟩ ?_
  refine mb_l_cons ⟨mm_ild _ _, ml_ild _ _⟩ ?_
  refine mb_l_cons ⟨mm_iald _, ml_iald _⟩ ?_
  refine mb_l_cons ⟨mm_iret, ml_iret⟩ ?_
  exact mb_l_nil
theorem mz_X8_seenVersion : ∀ pc i, mb_look mc_X8_seenVersion pc = some i → mb_Mon i ∧ mb_Le i := by
  unfold mc_X8_seenVersion
  refine mb_l_cons ⟨mm_push _ _, ml_push _ _⟩ ?_
  refine mb_l_cons ⟨mm_ild _ _, ml_ild _ _⟩ ?_
  refine mb_l_cons ⟨mm_imul _, ml_imul _⟩ ?_
  refine mb_l_cons ⟨mm_ild _ _, ml_ild _ _⟩ ?_
  refine mb_l_cons ⟨mm_iadd _, ml_iadd _⟩ ?_
  refine mb_l_cons ⟨mm_ist _ _, ml_ist _ _⟩ ?_
  refine mb_l_cons ⟨mm_ald _ _, ml_ald _ _⟩ ?_
  refine mb_l_cons ⟨mm_getf _ _ _, ml_getf _ _ _⟩ ?_
  refine mb_l_cons ⟨mm_push _ _, ml_push _ _⟩ ?_
  refine mb_l_cons ⟨mm_ild _ _, ml_ild _ _⟩ ?_
  refine mb_l_cons ⟨mm_imul _, ml_imul _⟩ ?_
  refine mb_l_cons ⟨mm_ild _ _, ml_ild _ _⟩ ?_
  refine mb_l_cons ⟨mm_iadd _, ml_iadd _⟩ ?_
  refine mb_l_cons ⟨mm_iald _, ml_iald _⟩ ?_
  refine mb_l_cons ⟨mm_ist _ _, ml_ist _ _⟩ ?_
  refine mb_l_cons ⟨mm_ald _ _, ml_ald _ _⟩ ?_
  refine mb_l_cons ⟨mm_getf _ _ _, ml_getf _ _ _⟩ ?_
  refine mb_l_cons ⟨mm_ild _ _, ml_ild _ _⟩ ?_
  refine mb_l_cons ⟨mm_zald _, ml_zald _⟩ ?_
  refine mb_l_cons ⟨mm_if1 _ _ _, ml_if1 _ _ _⟩ ?_
  refine mb_l_cons ⟨mm_ild _ _, ml_ild _ _⟩ ?_
  refine mb_l_cons ⟨mm_ald _ _, ml_ald _ _⟩ ?_
  refine mb_l_cons ⟨mm_getf _ _ _, ml_getf _ _ _⟩ ?_
  refine mb_l_cons ⟨mm_ild _ _, ml_ild _ _⟩ ?_
  refine mb_l_cons ⟨mm_iald _, ml_iald _⟩ ?_
  refine mb_l_cons ⟨mm_ald _ _, ml_ald _ _⟩ ?_
  refine mb_l_cons ⟨mm_getf _ _ _, ml_getf _ _ _⟩ ?_
  refine mb_l_cons ⟨mm_ild _ _, ml_ild _ _⟩ ?_
  refine mb_l_cons ⟨mm_iald _, ml_iald _⟩ ?_
  refine mb_l_cons ⟨mm_calls _ _ _, ml_calls _ _ _⟩ ?_
  refine mb_l_cons ⟨mm_if1 _ _ _, ml_if1 _ _ _⟩ ?_
  refine mb_l_cons ⟨mm_push _ _, ml_push _ _⟩ ?_
  refine mb_l_cons ⟨mm_iret, ml_iret⟩ ?_
  refine mb_l_cons ⟨mm_ald _ _, ml_ald _ _⟩ ?_
  refine mb_l_cons ⟨mm_getf _ _ _, ml_getf _ _ _⟩ ?_
  refine mb_l_cons ⟨mm_ild _ _, ml_ild _ _⟩ ?_
  refine mb_l_cons ⟨mm_iald _, ml_iald _⟩ ?_
  refine mb_l_cons ⟨mm_push _ _, ml_push _ _⟩ ?_
  refine mb_l_cons ⟨mm_if2 _ _ _, ml_if2 _ _ _⟩ ?_
  refine mb_l_cons ⟨mm_ald _ _, ml_ald _ _⟩ ?_
  refine mb_l_cons ⟨mm_getf _ _ _, ml_getf _ _ _⟩ ?_
  refine mb_l_cons ⟨mm_ild _ _, ml_ild _ _⟩ ?_
  refine mb_l_cons ⟨mm_iald _, ml_iald _⟩ ?_
  refine mb_l_cons ⟨mm_go _, ml_go _⟩ ?_
  refine mb_l_cons ⟨mm_ald _ _, ml_ald _ _⟩ ?_
  refine mb_l_cons ⟨mm_getf _ _ _, ml_getf _ _ _⟩ ?_
  refine mb_l_cons ⟨mm_ild _ _, ml_ild _ _⟩ ?_
  refine mb_l_cons ⟨mm_iald _, ml_iald _⟩ ?_
  refine mb_l_cons ⟨mm_push _ _, ml_push _ _⟩ ?_
  refine mb_l_cons ⟨mm_isub _, ml_isub _⟩ ?_
  refine mb_l_cons ⟨mm_iret, ml_iret⟩ ?_
  exact mb_l_nil
theorem mz_X8_seenBones : ∀ pc i, mb_look mc_X8_seenBones pc = some i → mb_Mon i ∧ mb_Le i := by
  unfold mc_X8_seenBones
  refine mb_l_cons ⟨mm_ald _ _, ml_ald _ _⟩ ?_
  refine mb_l_cons ⟨mm_ild _ _, ml_ild _ _⟩ ?_
  refine mb_l_cons ⟨mm_ild _ _, ml_ild _ _⟩ ?_
  refine mb_l_cons ⟨mm_ild _ _, ml_ild _ _⟩ ?_
  refine mb_l_cons ⟨mm_callv _ _ _ _ _, ml_callv _ _ _ _ _⟩ ?_
  refine mb_l_cons ⟨mm_ist _ _, ml_ist _ _⟩ ?_
  refine mb_l_cons ⟨mm_ild _ _, ml_ild _ _⟩ ?_
  refine mb_l_cons ⟨mm_push _ _, ml_push _ _⟩ ?_
  refine mb_l_cons ⟨mm_if2 _ _ _, ml_if2 _ _ _⟩ ?_
  refine mb_l_cons ⟨mm_push _ _, ml_push _ _⟩ ?_
  refine mb_l_cons ⟨mm_go _, ml_go _⟩ ?_
  refine mb_l_cons ⟨mm_ald _ _, ml_ald _ _⟩ ?_
  refine mb_l_cons ⟨mm_getf _ _ _, ml_getf _ _ _⟩ ?_
  refine mb_l_cons ⟨mm_ild _ _, ml_ild _ _⟩ ?_
  refine mb_l_cons ⟨mm_ild _ _, ml_ild _ _⟩ ?_
  refine mb_l_cons ⟨mm_calls _ _ _, ml_calls _ _ _⟩ ?_
  refine mb_l_cons ⟨mm_iald _, ml_iald _⟩ ?_
  refine mb_l_cons ⟨mm_iret, ml_iret⟩ ?_
  exact mb_l_nil
theorem mz_X8_isAsKept : ∀ pc i, mb_look mc_X8_isAsKept pc = some i → mb_Mon i ∧ mb_Le i := by
  unfold mc_X8_isAsKept
  refine mb_l_cons ⟨mm_push _ _, ml_push _ _⟩ ?_
  refine mb_l_cons ⟨mm_push _ _, ml_push _ _⟩ ?_
  refine mb_l_cons ⟨mm_ild _ _, ml_ild _ _⟩ ?_
  refine mb_l_cons ⟨mm_imul _, ml_imul _⟩ ?_
  refine mb_l_cons ⟨mm_ild _ _, ml_ild _ _⟩ ?_
  refine mb_l_cons ⟨mm_iadd _, ml_iadd _⟩ ?_
  refine mb_l_cons ⟨mm_imul _, ml_imul _⟩ ?_
  refine mb_l_cons ⟨mm_ild _ _, ml_ild _ _⟩ ?_
  refine mb_l_cons ⟨mm_iadd _, ml_iadd _⟩ ?_
  refine mb_l_cons ⟨mm_ist _ _, ml_ist _ _⟩ ?_
  refine mb_l_cons ⟨mm_ald _ _, ml_ald _ _⟩ ?_
  refine mb_l_cons ⟨mm_ild _ _, ml_ild _ _⟩ ?_
  refine mb_l_cons ⟨mm_ild _ _, ml_ild _ _⟩ ?_
  refine mb_l_cons ⟨mm_ild _ _, ml_ild _ _⟩ ?_
  refine mb_l_cons ⟨mm_callv _ _ _ _ _, ml_callv _ _ _ _ _⟩ ?_
  refine mb_l_cons ⟨mm_ist _ _, ml_ist _ _⟩ ?_
  refine mb_l_cons ⟨mm_ild _ _, ml_ild _ _⟩ ?_
  refine mb_l_cons ⟨mm_ald _ _, ml_ald _ _⟩ ?_
  refine mb_l_cons ⟨mm_ild _ _, ml_ild _ _⟩ ?_
  refine mb_l_cons ⟨mm_ild _ _, ml_ild _ _⟩ ?_
  refine mb_l_cons ⟨mm_ild _ _, ml_ild _ _⟩ ?_
  refine mb_l_cons ⟨mm_callv _ _ _ _ _, ml_callv _ _ _ _ _⟩ ?_
  refine mb_l_cons ⟨mm_calls _ _ _, ml_calls _ _ _⟩ ?_
  refine mb_l_cons ⟨mm_ist _ _, ml_ist _ _⟩ ?_
  refine mb_l_cons ⟨mm_ild _ _, ml_ild _ _⟩ ?_
  refine mb_l_cons ⟨mm_ald _ _, ml_ald _ _⟩ ?_
  refine mb_l_cons ⟨mm_getf _ _ _, ml_getf _ _ _⟩ ?_
  refine mb_l_cons ⟨mm_ild _ _, ml_ild _ _⟩ ?_
  refine mb_l_cons ⟨mm_iald _, ml_iald _⟩ ?_
  refine mb_l_cons ⟨mm_if2 _ _ _, ml_if2 _ _ _⟩ ?_
  refine mb_l_cons ⟨mm_push _ _, ml_push _ _⟩ ?_
  refine mb_l_cons ⟨mm_go _, ml_go _⟩ ?_
  refine mb_l_cons ⟨mm_push _ _, ml_push _ _⟩ ?_
  refine mb_l_cons ⟨mm_ist _ _, ml_ist _ _⟩ ?_
  refine mb_l_cons ⟨mm_push _ _, ml_push _ _⟩ ?_
  refine mb_l_cons ⟨mm_ist _ _, ml_ist _ _⟩ ?_
  refine mb_l_cons ⟨mm_ild _ _, ml_ild _ _⟩ ?_
  refine mb_l_cons ⟨mm_ild _ _, ml_ild _ _⟩ ?_
  refine mb_l_cons ⟨mm_if2 _ _ _, ml_if2 _ _ _⟩ ?_
  refine mb_l_cons ⟨mm_ild _ _, ml_ild _ _⟩ ?_
  refine mb_l_cons ⟨mm_if1 _ _ _, ml_if1 _ _ _⟩ ?_
  refine mb_l_cons ⟨mm_ald _ _, ml_ald _ _⟩ ?_
  refine mb_l_cons ⟨mm_getf _ _ _, ml_getf _ _ _⟩ ?_
  refine mb_l_cons ⟨mm_push _ _, ml_push _ _⟩ ?_
  refine mb_l_cons ⟨mm_ild _ _, ml_ild _ _⟩ ?_
  refine mb_l_cons ⟨mm_imul _, ml_imul _⟩ ?_
  refine mb_l_cons ⟨mm_ild _ _, ml_ild _ _⟩ ?_
  refine mb_l_cons ⟨mm_iadd _, ml_iadd _⟩ ?_
  refine mb_l_cons ⟨mm_iald _, ml_iald _⟩ ?_
  refine mb_l_cons ⟨mm_ald _ _, ml_ald _ _⟩ ?_
  refine mb_l_cons ⟨mm_ild _ _, ml_ild _ _⟩ ?_
  refine mb_l_cons ⟨mm_ild _ _, ml_ild _ _⟩ ?_
  refine mb_l_cons ⟨mm_ald _ _, ml_ald _ _⟩ ?_
  refine mb_l_cons ⟨mm_getf _ _ _, ml_getf _ _ _⟩ ?_
  refine mb_l_cons ⟨mm_push _ _, ml_push _ _⟩ ?_
  refine mb_l_cons ⟨mm_ild _ _, ml_ild _ _⟩ ?_
  refine mb_l_cons ⟨mm_imul _, ml_imul _⟩ ?_
  refine mb_l_cons ⟨mm_ild _ _, ml_ild _ _⟩ ?_
  refine mb_l_cons ⟨mm_iadd _, ml_iadd _⟩ ?_
  refine mb_l_cons ⟨mm_iald _, ml_iald _⟩ ?_
  refine mb_l_cons ⟨mm_callv _ _ _ _ _, ml_callv _ _ _ _ _⟩ ?_
  refine mb_l_cons ⟨mm_if2 _ _ _, ml_if2 _ _ _⟩ ?_
  refine mb_l_cons ⟨mm_push _ _, ml_push _ _⟩ ?_
  refine mb_l_cons ⟨mm_go _, ml_go _⟩ ?_
  refine mb_l_cons ⟨mm_push _ _, ml_push _ _⟩ ?_
  refine mb_l_cons ⟨mm_ist _ _, ml_ist _ _⟩ ?_
  refine mb_l_cons ⟨mm_iinc _ _ _, ml_iinc _ _ _⟩ ?_
  refine mb_l_cons ⟨mm_go _, ml_go _⟩ ?_
  refine mb_l_cons ⟨mm_ild _ _, ml_ild _ _⟩ ?_
  refine mb_l_cons ⟨mm_zret, ml_zret⟩ ?_
  exact mb_l_nil
theorem mz_X8_isNeeded : ∀ pc i, mb_look mc_X8_isNeeded pc = some i → mb_Mon i ∧ mb_Le i := by
  unfold mc_X8_isNeeded
  refine mb_l_cons ⟨mm_ald _ _, ml_ald _ _⟩ ?_
  refine mb_l_cons ⟨mm_getf _ _ _, ml_getf _ _ _⟩ ?_
  refine mb_l_cons ⟨mm_push _ _, ml_push _ _⟩ ?_
  refine mb_l_cons ⟨mm_ild _ _, ml_ild _ _⟩ ?_
  refine mb_l_cons ⟨mm_imul _, ml_imul _⟩ ?_
  refine mb_l_cons ⟨mm_ild _ _, ml_ild _ _⟩ ?_
  refine mb_l_cons ⟨mm_iadd _, ml_iadd _⟩ ?_
  refine mb_l_cons ⟨mm_iald _, ml_iald _⟩ ?_
  refine mb_l_cons ⟨mm_if1 _ _ _, ml_if1 _ _ _⟩ ?_
  refine mb_l_cons ⟨mm_push _ _, ml_push _ _⟩ ?_
  refine mb_l_cons ⟨mm_go _, ml_go _⟩ ?_
  refine mb_l_cons ⟨mm_push _ _, ml_push _ _⟩ ?_
  refine mb_l_cons ⟨mm_ist _ _, ml_ist _ _⟩ ?_
  refine mb_l_cons ⟨mm_push _ _, ml_push _ _⟩ ?_
  refine mb_l_cons ⟨mm_ist _ _, ml_ist _ _⟩ ?_
  refine mb_l_cons ⟨mm_ild _ _, ml_ild _ _⟩ ?_
  refine mb_l_cons ⟨mm_ald _ _, ml_ald _ _⟩ ?_
  refine mb_l_cons ⟨mm_getf _ _ _, ml_getf _ _ _⟩ ?_
  refine mb_l_cons ⟨mm_if2 _ _ _, ml_if2 _ _ _⟩ ?_
  refine mb_l_cons ⟨mm_ild _ _, ml_ild _ _⟩ ?_
  refine mb_l_cons ⟨mm_if1 _ _ _, ml_if1 _ _ _⟩ ?_
  refine mb_l_cons ⟨mm_ald _ _, ml_ald _ _⟩ ?_
  refine mb_l_cons ⟨mm_ild _ _, ml_ild _ _⟩ ?_
  refine mb_l_cons ⟨mm_ild _ _, ml_ild _ _⟩ ?_
  refine mb_l_cons ⟨mm_ild _ _, ml_ild _ _⟩ ?_
  refine mb_l_cons ⟨mm_callv _ _ _ _ _, ml_callv _ _ _ _ _⟩ ?_
  refine mb_l_cons ⟨mm_if1 _ _ _, ml_if1 _ _ _⟩ ?_
  refine mb_l_cons ⟨mm_push _ _, ml_push _ _⟩ ?_
  refine mb_l_cons ⟨mm_go _, ml_go _⟩ ?_
  refine mb_l_cons ⟨mm_push _ _, ml_push _ _⟩ ?_
  refine mb_l_cons ⟨mm_ist _ _, ml_ist _ _⟩ ?_
  refine mb_l_cons ⟨mm_iinc _ _ _, ml_iinc _ _ _⟩ ?_
  refine mb_l_cons ⟨mm_go _, ml_go _⟩ ?_
  refine mb_l_cons ⟨mm_ild _ _, ml_ild _ _⟩ ?_
  refine mb_l_cons ⟨mm_zret, ml_zret⟩ ?_
  exact mb_l_nil
theorem mz_X8_keeps : ∀ pc i, mb_look mc_X8_keeps pc = some i → mb_Mon i ∧ mb_Le i := by
  unfold mc_X8_keeps
  refine mb_l_cons ⟨mm_push _ _, ml_push _ _⟩ ?_
  refine mb_l_cons ⟨mm_ist _ _, ml_ist _ _⟩ ?_
  refine mb_l_cons ⟨mm_ild _ _, ml_ild _ _⟩ ?_
  refine mb_l_cons ⟨mm_push _ _, ml_push _ _⟩ ?_
  refine mb_l_cons ⟨mm_if2 _ _ _, ml_if2 _ _ _⟩ ?_
  refine mb_l_cons ⟨mm_push _ _, ml_push _ _⟩ ?_
  refine mb_l_cons ⟨mm_push _ _, ml_push _ _⟩ ?_
  refine mb_l_cons ⟨mm_ild _ _, ml_ild _ _⟩ ?_
  refine mb_l_cons ⟨mm_imul _, ml_imul _⟩ ?_
  refine mb_l_cons ⟨mm_ild _ _, ml_ild _ _⟩ ?_
  refine mb_l_cons ⟨mm_iadd _, ml_iadd _⟩ ?_
  refine mb_l_cons ⟨mm_imul _, ml_imul _⟩ ?_
  refine mb_l_cons ⟨mm_ild _ _, ml_ild _ _⟩ ?_
  refine mb_l_cons ⟨mm_iadd _, ml_iadd _⟩ ?_
  refine mb_l_cons ⟨mm_ist _ _, ml_ist _ _⟩ ?_
  refine mb_l_cons ⟨mm_ild _ _, ml_ild _ _⟩ ?_
  refine mb_l_cons ⟨mm_ald _ _, ml_ald _ _⟩ ?_
  refine mb_l_cons ⟨mm_getf _ _ _, ml_getf _ _ _⟩ ?_
  refine mb_l_cons ⟨mm_if2 _ _ _, ml_if2 _ _ _⟩ ?_
  refine mb_l_cons ⟨mm_ald _ _, ml_ald _ _⟩ ?_
  refine mb_l_cons ⟨mm_ild _ _, ml_ild _ _⟩ ?_
  refine mb_l_cons ⟨mm_ild _ _, ml_ild _ _⟩ ?_
  refine mb_l_cons ⟨mm_ild _ _, ml_ild _ _⟩ ?_
  refine mb_l_cons ⟨mm_callv _ _ _ _ _, ml_callv _ _ _ _ _⟩ ?_
  refine mb_l_cons ⟨mm_go _, ml_go _⟩ ?_
  refine mb_l_cons ⟨mm_push _ _, ml_push _ _⟩ ?_
  refine mb_l_cons ⟨mm_ist _ _, ml_ist _ _⟩ ?_
  refine mb_l_cons ⟨mm_ald _ _, ml_ald _ _⟩ ?_
  refine mb_l_cons ⟨mm_getf _ _ _, ml_getf _ _ _⟩ ?_
  refine mb_l_cons ⟨mm_ild _ _, ml_ild _ _⟩ ?_
  refine mb_l_cons ⟨mm_ild _ _, ml_ild _ _⟩ ?_
  refine mb_l_cons ⟨mm_iast _, ml_iast _⟩ ?_
  refine mb_l_cons ⟨mm_ald _ _, ml_ald _ _⟩ ?_
  refine mb_l_cons ⟨mm_getf _ _ _, ml_getf _ _ _⟩ ?_
  refine mb_l_cons ⟨mm_ild _ _, ml_ild _ _⟩ ?_
  refine mb_l_cons ⟨mm_ild _ _, ml_ild _ _⟩ ?_
  refine mb_l_cons ⟨mm_push _ _, ml_push _ _⟩ ?_
  refine mb_l_cons ⟨mm_if2 _ _ _, ml_if2 _ _ _⟩ ?_
  refine mb_l_cons ⟨mm_push _ _, ml_push _ _⟩ ?_
  refine mb_l_cons ⟨mm_go _, ml_go _⟩ ?_
  refine mb_l_cons ⟨mm_ald _ _, ml_ald _ _⟩ ?_
  refine mb_l_cons ⟨mm_getf _ _ _, ml_getf _ _ _⟩ ?_
  refine mb_l_cons ⟨mm_ild _ _, ml_ild _ _⟩ ?_
  refine mb_l_cons ⟨mm_ild _ _, ml_ild _ _⟩ ?_
  refine mb_l_cons ⟨mm_calls _ _ _, ml_calls _ _ _⟩ ?_
  refine mb_l_cons ⟨mm_iald _, ml_iald _⟩ ?_
  refine mb_l_cons ⟨mm_iast _, ml_iast _⟩ ?_
  refine mb_l_cons ⟨mm_push _ _, ml_push _ _⟩ ?_
  refine mb_l_cons ⟨mm_ist _ _, ml_ist _ _⟩ ?_
  refine mb_l_cons ⟨mm_ild _ _, ml_ild _ _⟩ ?_
  refine mb_l_cons ⟨mm_ald _ _, ml_ald _ _⟩ ?_
  refine mb_l_cons ⟨mm_getf _ _ _, ml_getf _ _ _⟩ ?_
  refine mb_l_cons ⟨mm_ild _ _, ml_ild _ _⟩ ?_
  refine mb_l_cons ⟨mm_iald _, ml_iald _⟩ ?_
  refine mb_l_cons ⟨mm_if2 _ _ _, ml_if2 _ _ _⟩ ?_
  refine mb_l_cons ⟨mm_ald _ _, ml_ald _ _⟩ ?_
  refine mb_l_cons ⟨mm_getf _ _ _, ml_getf _ _ _⟩ ?_
  refine mb_l_cons ⟨mm_push _ _, ml_push _ _⟩ ?_
  refine mb_l_cons ⟨mm_ild _ _, ml_ild _ _⟩ ?_
  refine mb_l_cons ⟨mm_imul _, ml_imul _⟩ ?_
  refine mb_l_cons ⟨mm_ild _ _, ml_ild _ _⟩ ?_
  refine mb_l_cons ⟨mm_iadd _, ml_iadd _⟩ ?_
  refine mb_l_cons ⟨mm_ald _ _, ml_ald _ _⟩ ?_
  refine mb_l_cons ⟨mm_ild _ _, ml_ild _ _⟩ ?_
  refine mb_l_cons ⟨mm_ild _ _, ml_ild _ _⟩ ?_
  refine mb_l_cons ⟨mm_calls _ _ _, ml_calls _ _ _⟩ ?_
  refine mb_l_cons ⟨mm_ild _ _, ml_ild _ _⟩ ?_
  refine mb_l_cons ⟨mm_ald _ _, ml_ald _ _⟩ ?_
  refine mb_l_cons ⟨mm_getf _ _ _, ml_getf _ _ _⟩ ?_
  refine mb_l_cons ⟨mm_push _ _, ml_push _ _⟩ ?_
  refine mb_l_cons ⟨mm_ild _ _, ml_ild _ _⟩ ?_
  refine mb_l_cons ⟨mm_imul _, ml_imul _⟩ ?_
  refine mb_l_cons ⟨mm_ild _ _, ml_ild _ _⟩ ?_
  refine mb_l_cons ⟨mm_iadd _, ml_iadd _⟩ ?_
  refine mb_l_cons ⟨mm_iald _, ml_iald _⟩ ?_
  refine mb_l_cons ⟨mm_callv _ _ _ _ _, ml_callv _ _ _ _ _⟩ ?_
  refine mb_l_cons ⟨mm_iast _, ml_iast _⟩ ?_
  refine mb_l_cons ⟨mm_iinc _ _ _, ml_iinc _ _ _⟩ ?_
  refine mb_l_cons ⟨mm_go _, ml_go _⟩ ?_
  refine mb_l_cons ⟨mm_iinc _ _ _, ml_iinc _ _ _⟩ ?_
  refine mb_l_cons ⟨mm_go _, ml_go _⟩ ?_
  refine mb_l_cons ⟨mm_vret, ml_vret⟩ ?_
  exact mb_l_nil
theorem mz_X8_renders : ∀ pc i, mb_look mc_X8_renders pc = some i → mb_Mon i ∧ mb_Le i := by
  unfold mc_X8_renders
  refine mb_l_cons ⟨mm_ald _ _, ml_ald _ _⟩ ?_
  refine mb_l_cons ⟨mm_ild _ _, ml_ild _ _⟩ ?_
  refine mb_l_cons ⟨mm_ild _ _, ml_ild _ _⟩ ?_
  refine mb_l_cons ⟨mm_callv _ _ _ _ _, ml_callv _ _ _ _ _⟩ ?_
  refine mb_l_cons ⟨mm_ald _ _, ml_ald _ _⟩ ?_
  refine mb_l_cons ⟨mm_getf _ _ _, ml_getf _ _ _⟩ ?_
  refine mb_l_cons ⟨mm_push _ _, ml_push _ _⟩ ?_
  refine mb_l_cons ⟨mm_ild _ _, ml_ild _ _⟩ ?_
  refine mb_l_cons ⟨mm_imul _, ml_imul _⟩ ?_
  refine mb_l_cons ⟨mm_ild _ _, ml_ild _ _⟩ ?_
  refine mb_l_cons ⟨mm_iadd _, ml_iadd _⟩ ?_
  refine mb_l_cons ⟨mm_dup2 _, ml_dup2 _⟩ ?_
  refine mb_l_cons ⟨mm_iald _, ml_iald _⟩ ?_
  refine mb_l_cons ⟨mm_push _ _, ml_push _ _⟩ ?_
  refine mb_l_cons ⟨mm_iadd _, ml_iadd _⟩ ?_
  refine mb_l_cons ⟨mm_iast _, ml_iast _⟩ ?_
  refine mb_l_cons ⟨mm_ald _ _, ml_ald _ _⟩ ?_
  refine mb_l_cons ⟨mm_dup _, ml_dup _⟩ ?_
  refine mb_l_cons ⟨mm_getf _ _ _, ml_getf _ _ _⟩ ?_
  refine mb_l_cons ⟨mm_push _ _, ml_push _ _⟩ ?_
  refine mb_l_cons ⟨mm_iadd _, ml_iadd _⟩ ?_
  refine mb_l_cons ⟨mm_putf _ _ _ _, ml_putf _ _ _ _⟩ ?_
  refine mb_l_cons ⟨mm_vret, ml_vret⟩ ?_
  exact mb_l_nil
theorem mz_X8_render : ∀ pc i, mb_look mc_X8_render pc = some i → mb_Mon i ∧ mb_Le i := by
  unfold mc_X8_render
  refine mb_l_cons ⟨mm_ald _ _, ml_ald _ _⟩ ?_
  refine mb_l_cons ⟨mm_ald _ _, ml_ald _ _⟩ ?_
  refine mb_l_cons ⟨mm_ild _ _, ml_ild _ _⟩ ?_
  refine mb_l_cons ⟨mm_callv _ _ _ _ _, ml_callv _ _ _ _ _⟩ ?_
  refine mb_l_cons ⟨mm_if1 _ _ _, ml_if1 _ _ _⟩ ?_
  refine mb_l_cons ⟨mm_push _ _, ml_push _ _⟩ ?_
  refine mb_l_cons ⟨mm_go _, ml_go _⟩ ?_
  refine mb_l_cons ⟨mm_push _ _, ml_push _ _⟩ ?_
  refine mb_l_cons ⟨mm_callv _ _ _ _ _, ml_callv _ _ _ _ _⟩ ?_
  refine mb_l_cons ⟨mm_if1 _ _ _, ml_if1 _ _ _⟩ ?_
  refine mb_l_cons ⟨mm_push _ _, ml_push _ _⟩ ?_
  refine mb_l_cons ⟨mm_iret, ml_iret⟩ ?_
  refine mb_l_cons ⟨mm_push _ _, ml_push _ _⟩ ?_
  refine mb_l_cons ⟨mm_ist _ _, ml_ist _ _⟩ ?_
  refine mb_l_cons ⟨mm_push _ _, ml_push _ _⟩ ?_
  refine mb_l_cons ⟨mm_ist _ _, ml_ist _ _⟩ ?_
  refine mb_l_cons ⟨mm_ild _ _, ml_ild _ _⟩ ?_
  refine mb_l_cons ⟨mm_ald _ _, ml_ald _ _⟩ ?_
  refine mb_l_cons ⟨mm_getf _ _ _, ml_getf _ _ _⟩ ?_
  refine mb_l_cons ⟨mm_ild _ _, ml_ild _ _⟩ ?_
  refine mb_l_cons ⟨mm_iald _, ml_iald _⟩ ?_
  refine mb_l_cons ⟨mm_if2 _ _ _, ml_if2 _ _ _⟩ ?_
  refine mb_l_cons ⟨mm_ald _ _, ml_ald _ _⟩ ?_
  refine mb_l_cons ⟨mm_ild _ _, ml_ild _ _⟩ ?_
  refine mb_l_cons ⟨mm_ild _ _, ml_ild _ _⟩ ?_
  refine mb_l_cons ⟨mm_callv _ _ _ _ _, ml_callv _ _ _ _ _⟩ ?_
  refine mb_l_cons ⟨mm_if1 _ _ _, ml_if1 _ _ _⟩ ?_
  refine mb_l_cons ⟨mm_ald _ _, ml_ald _ _⟩ ?_
  refine mb_l_cons ⟨mm_ild _ _, ml_ild _ _⟩ ?_
  refine mb_l_cons ⟨mm_ild _ _, ml_ild _ _⟩ ?_
  refine mb_l_cons ⟨mm_callv _ _ _ _ _, ml_callv _ _ _ _ _⟩ ?_
  refine mb_l_cons ⟨mm_iinc _ _ _, ml_iinc _ _ _⟩ ?_
  refine mb_l_cons ⟨mm_go _, ml_go _⟩ ?_
  refine mb_l_cons ⟨mm_ald _ _, ml_ald _ _⟩ ?_
  refine mb_l_cons ⟨mm_ild _ _, ml_ild _ _⟩ ?_
  refine mb_l_cons ⟨mm_ild _ _, ml_ild _ _⟩ ?_
  refine mb_l_cons ⟨mm_callv _ _ _ _ _, ml_callv _ _ _ _ _⟩ ?_
  refine mb_l_cons ⟨mm_iinc _ _ _, ml_iinc _ _ _⟩ ?_
  refine mb_l_cons ⟨mm_go _, ml_go _⟩ ?_
  refine mb_l_cons ⟨mm_ild _ _, ml_ild _ _⟩ ?_
  refine mb_l_cons ⟨mm_iret, ml_iret⟩ ?_
  exact mb_l_nil
theorem mz_X8_renderOne : ∀ pc i, mb_look mc_X8_renderOne pc = some i → mb_Mon i ∧ mb_Le i := by
  unfold mc_X8_renderOne
  refine mb_l_cons ⟨mm_ald _ _, ml_ald _ _⟩ ?_
  refine mb_l_cons ⟨mm_ald _ _, ml_ald _ _⟩ ?_
  refine mb_l_cons ⟨mm_ild _ _, ml_ild _ _⟩ ?_
  refine mb_l_cons ⟨mm_ild _ _, ml_ild _ _⟩ ?_
  refine mb_l_cons ⟨mm_callv _ _ _ _ _, ml_callv _ _ _ _ _⟩ ?_
  refine mb_l_cons ⟨mm_if1 _ _ _, ml_if1 _ _ _⟩ ?_
  refine mb_l_cons ⟨mm_push _ _, ml_push _ _⟩ ?_
  refine mb_l_cons ⟨mm_go _, ml_go _⟩ ?_
  refine mb_l_cons ⟨mm_push _ _, ml_push _ _⟩ ?_
  refine mb_l_cons ⟨mm_callv _ _ _ _ _, ml_callv _ _ _ _ _⟩ ?_
  refine mb_l_cons ⟨mm_if1 _ _ _, ml_if1 _ _ _⟩ ?_
  refine mb_l_cons ⟨mm_push _ _, ml_push _ _⟩ ?_
  refine mb_l_cons ⟨mm_zret, ml_zret⟩ ?_
  refine mb_l_cons ⟨mm_ald _ _, ml_ald _ _⟩ ?_
  refine mb_l_cons ⟨mm_ild _ _, ml_ild _ _⟩ ?_
  refine mb_l_cons ⟨mm_ild _ _, ml_ild _ _⟩ ?_
  refine mb_l_cons ⟨mm_callv _ _ _ _ _, ml_callv _ _ _ _ _⟩ ?_
  refine mb_l_cons ⟨mm_ist _ _, ml_ist _ _⟩ ?_
  refine mb_l_cons ⟨mm_ald _ _, ml_ald _ _⟩ ?_
  refine mb_l_cons ⟨mm_ild _ _, ml_ild _ _⟩ ?_
  refine mb_l_cons ⟨mm_ild _ _, ml_ild _ _⟩ ?_
  refine mb_l_cons ⟨mm_callv _ _ _ _ _, ml_callv _ _ _ _ _⟩ ?_
  refine mb_l_cons ⟨mm_ild _ _, ml_ild _ _⟩ ?_
  refine mb_l_cons ⟨mm_zret, ml_zret⟩ ?_
  exact mb_l_nil
theorem mz_X8_needed : ∀ pc i, mb_look mc_X8_needed pc = some i → mb_Mon i ∧ mb_Le i := by
  unfold mc_X8_needed
  refine mb_l_cons ⟨mm_push _ _, ml_push _ _⟩ ?_
  refine mb_l_cons ⟨mm_ist _ _, ml_ist _ _⟩ ?_
  refine mb_l_cons ⟨mm_push _ _, ml_push _ _⟩ ?_
  refine mb_l_cons ⟨mm_ist _ _, ml_ist _ _⟩ ?_
  refine mb_l_cons ⟨mm_ild _ _, ml_ild _ _⟩ ?_
  refine mb_l_cons ⟨mm_ald _ _, ml_ald _ _⟩ ?_
  refine mb_l_cons ⟨mm_getf _ _ _, ml_getf _ _ _⟩ ?_
  refine mb_l_cons ⟨mm_ild _ _, ml_ild _ _⟩ ?_
  refine mb_l_cons ⟨mm_iald _, ml_iald _⟩ ?_
  refine mb_l_cons ⟨mm_if2 _ _ _, ml_if2 _ _ _⟩ ?_
  refine mb_l_cons ⟨mm_ild _ _, ml_ild _ _⟩ ?_
  refine mb_l_cons ⟨mm_ald _ _, ml_ald _ _⟩ ?_
  refine mb_l_cons ⟨mm_ild _ _, ml_ild _ _⟩ ?_
  refine mb_l_cons ⟨mm_ild _ _, ml_ild _ _⟩ ?_
  refine mb_l_cons ⟨mm_callv _ _ _ _ _, ml_callv _ _ _ _ _⟩ ?_
  refine mb_l_cons ⟨mm_if1 _ _ _, ml_if1 _ _ _⟩ ?_
  refine mb_l_cons ⟨mm_push _ _, ml_push _ _⟩ ?_
  refine mb_l_cons ⟨mm_go _, ml_go _⟩ ?_
  refine mb_l_cons ⟨mm_push _ _, ml_push _ _⟩ ?_
  refine mb_l_cons ⟨mm_iadd _, ml_iadd _⟩ ?_
  refine mb_l_cons ⟨mm_ist _ _, ml_ist _ _⟩ ?_
  refine mb_l_cons ⟨mm_iinc _ _ _, ml_iinc _ _ _⟩ ?_
  refine mb_l_cons ⟨mm_go _, ml_go _⟩ ?_
  refine mb_l_cons ⟨mm_ild _ _, ml_ild _ _⟩ ?_
  refine mb_l_cons ⟨mm_iret, ml_iret⟩ ?_
  exact mb_l_nil
theorem mz_X8_needs : ∀ pc i, mb_look mc_X8_needs pc = some i → mb_Mon i ∧ mb_Le i := by
  unfold mc_X8_needs
  refine mb_l_cons ⟨mm_ald _ _, ml_ald _ _⟩ ?_
  refine mb_l_cons ⟨mm_ald _ _, ml_ald _ _⟩ ?_
  refine mb_l_cons ⟨mm_ild _ _, ml_ild _ _⟩ ?_
  refine mb_l_cons ⟨mm_callv _ _ _ _ _, ml_callv _ _ _ _ _⟩ ?_
  refine mb_l_cons ⟨mm_if1 _ _ _, ml_if1 _ _ _⟩ ?_
  refine mb_l_cons ⟨mm_push _ _, ml_push _ _⟩ ?_
  refine mb_l_cons ⟨mm_go _, ml_go _⟩ ?_
  refine mb_l_cons ⟨mm_push _ _, ml_push _ _⟩ ?_
  refine mb_l_cons ⟨mm_callv _ _ _ _ _, ml_callv _ _ _ _ _⟩ ?_
  refine mb_l_cons ⟨mm_if1 _ _ _, ml_if1 _ _ _⟩ ?_
  refine mb_l_cons ⟨mm_ald _ _, ml_ald _ _⟩ ?_
  refine mb_l_cons ⟨mm_ild _ _, ml_ild _ _⟩ ?_
  refine mb_l_cons ⟨mm_callv _ _ _ _ _, ml_callv _ _ _ _ _⟩ ?_
  refine mb_l_cons ⟨mm_go _, ml_go _⟩ ?_
  refine mb_l_cons ⟨mm_push _ _, ml_push _ _⟩ ?_
  refine mb_l_cons ⟨mm_iret, ml_iret⟩ ?_
  exact mb_l_nil
theorem mz_X8_isMixed : ∀ pc i, mb_look mc_X8_isMixed pc = some i → mb_Mon i ∧ mb_Le i := by
  unfold mc_X8_isMixed
  refine mb_l_cons ⟨mm_push _ _, ml_push _ _⟩ ?_
  refine mb_l_cons ⟨mm_ist _ _, ml_ist _ _⟩ ?_
  refine mb_l_cons ⟨mm_push _ _, ml_push _ _⟩ ?_
  refine mb_l_cons ⟨mm_ist _ _, ml_ist _ _⟩ ?_
  refine mb_l_cons ⟨mm_push _ _, ml_push _ _⟩ ?_
  refine mb_l_cons ⟨mm_ist _ _, ml_ist _ _⟩ ?_
  refine mb_l_cons ⟨mm_ild _ _, ml_ild _ _⟩ ?_
  refine mb_l_cons ⟨mm_ald _ _, ml_ald _ _⟩ ?_
  refine mb_l_cons ⟨mm_getf _ _ _, ml_getf _ _ _⟩ ?_
  refine mb_l_cons ⟨mm_ild _ _, ml_ild _ _⟩ ?_
  refine mb_l_cons ⟨mm_iald _, ml_iald _⟩ ?_
  refine mb_l_cons ⟨mm_if2 _ _ _, ml_if2 _ _ _⟩ ?_
  refine mb_l_cons ⟨mm_push _ _, ml_push _ _⟩ ?_
  refine mb_l_cons ⟨mm_ild _ _, ml_ild _ _⟩ ?_
  refine mb_l_cons ⟨mm_imul _, ml_imul _⟩ ?_
  refine mb_l_cons ⟨mm_ild _ _, ml_ild _ _⟩ ?_
  refine mb_l_cons ⟨mm_iadd _, ml_iadd _⟩ ?_
  refine mb_l_cons ⟨mm_ist _ _, ml_ist _ _⟩ ?_
  refine mb_l_cons ⟨mm_ald _ _, ml_ald _ _⟩ ?_
  refine mb_l_cons ⟨mm_getf _ _ _, ml_getf _ _ _⟩ ?_
  refine mb_l_cons ⟨mm_ild _ _, ml_ild _ _⟩ ?_
  refine mb_l_cons ⟨mm_iald _, ml_iald _⟩ ?_
  refine mb_l_cons ⟨mm_if1 _ _ _, ml_if1 _ _ _⟩ ?_
  refine mb_l_cons ⟨mm_push _ _, ml_push _ _⟩ ?_
  refine mb_l_cons ⟨mm_go _, ml_go _⟩ ?_
  refine mb_l_cons ⟨mm_ald _ _, ml_ald _ _⟩ ?_
  refine mb_l_cons ⟨mm_getf _ _ _, ml_getf _ _ _⟩ ?_
  refine mb_l_cons ⟨mm_push _ _, ml_push _ _⟩ ?_
  refine mb_l_cons ⟨mm_ild _ _, ml_ild _ _⟩ ?_
  refine mb_l_cons ⟨mm_imul _, ml_imul _⟩ ?_
  refine mb_l_cons ⟨mm_ild _ _, ml_ild _ _⟩ ?_
  refine mb_l_cons ⟨mm_iadd _, ml_iadd _⟩ ?_
  refine mb_l_cons ⟨mm_iald _, ml_iald _⟩ ?_
  refine mb_l_cons ⟨mm_ist _ _, ml_ist _ _⟩ ?_
  refine mb_l_cons ⟨mm_ild _ _, ml_ild _ _⟩ ?_
  refine mb_l_cons ⟨mm_if1 _ _ _, ml_if1 _ _ _⟩ ?_
  refine mb_l_cons ⟨mm_ild _ _, ml_ild _ _⟩ ?_
  refine mb_l_cons ⟨mm_push _ _, ml_push _ _⟩ ?_
  refine mb_l_cons ⟨mm_if2 _ _ _, ml_if2 _ _ _⟩ ?_
  refine mb_l_cons ⟨mm_ild _ _, ml_ild _ _⟩ ?_
  refine mb_l_cons ⟨mm_push _ _, ml_push _ _⟩ ?_
  refine mb_l_cons ⟨mm_if2 _ _ _, ml_if2 _ _ _⟩ ?_
  refine mb_l_cons ⟨mm_ild _ _, ml_ild _ _⟩ ?_
  refine mb_l_cons ⟨mm_ild _ _, ml_ild _ _⟩ ?_
  refine mb_l_cons ⟨mm_if2 _ _ _, ml_if2 _ _ _⟩ ?_
  refine mb_l_cons ⟨mm_push _ _, ml_push _ _⟩ ?_
  refine mb_l_cons ⟨mm_go _, ml_go _⟩ ?_
  refine mb_l_cons ⟨mm_push _ _, ml_push _ _⟩ ?_
  refine mb_l_cons ⟨mm_ist _ _, ml_ist _ _⟩ ?_
  refine mb_l_cons ⟨mm_ild _ _, ml_ild _ _⟩ ?_
  refine mb_l_cons ⟨mm_push _ _, ml_push _ _⟩ ?_
  refine mb_l_cons ⟨mm_if2 _ _ _, ml_if2 _ _ _⟩ ?_
  refine mb_l_cons ⟨mm_ild _ _, ml_ild _ _⟩ ?_
  refine mb_l_cons ⟨mm_go _, ml_go _⟩ ?_
  refine mb_l_cons ⟨mm_ild _ _, ml_ild _ _⟩ ?_
  refine mb_l_cons ⟨mm_ist _ _, ml_ist _ _⟩ ?_
  refine mb_l_cons ⟨mm_iinc _ _ _, ml_iinc _ _ _⟩ ?_
  refine mb_l_cons ⟨mm_go _, ml_go _⟩ ?_
  refine mb_l_cons ⟨mm_ild _ _, ml_ild _ _⟩ ?_
  refine mb_l_cons ⟨mm_zret, ml_zret⟩ ?_
  exact mb_l_nil
theorem mz_X8_mixed : ∀ pc i, mb_look mc_X8_mixed pc = some i → mb_Mon i ∧ mb_Le i := by
  unfold mc_X8_mixed
  refine mb_l_cons ⟨mm_push _ _, ml_push _ _⟩ ?_
  refine mb_l_cons ⟨mm_ist _ _, ml_ist _ _⟩ ?_
  refine mb_l_cons ⟨mm_push _ _, ml_push _ _⟩ ?_
  refine mb_l_cons ⟨mm_ist _ _, ml_ist _ _⟩ ?_
  refine mb_l_cons ⟨mm_ild _ _, ml_ild _ _⟩ ?_
  refine mb_l_cons ⟨mm_ald _ _, ml_ald _ _⟩ ?_
  refine mb_l_cons ⟨mm_getf _ _ _, ml_getf _ _ _⟩ ?_
  refine mb_l_cons ⟨mm_if2 _ _ _, ml_if2 _ _ _⟩ ?_
  refine mb_l_cons ⟨mm_push _ _, ml_push _ _⟩ ?_
  refine mb_l_cons ⟨mm_ild _ _, ml_ild _ _⟩ ?_
  refine mb_l_cons ⟨mm_imul _, ml_imul _⟩ ?_
  refine mb_l_cons ⟨mm_ild _ _, ml_ild _ _⟩ ?_
  refine mb_l_cons ⟨mm_iadd _, ml_iadd _⟩ ?_
  refine mb_l_cons ⟨mm_ist _ _, ml_ist _ _⟩ ?_
  refine mb_l_cons ⟨mm_ild _ _, ml_ild _ _⟩ ?_
  refine mb_l_cons ⟨mm_ald _ _, ml_ald _ _⟩ ?_
  refine mb_l_cons ⟨mm_getf _ _ _, ml_getf _ _ _⟩ ?_
  refine mb_l_cons ⟨mm_ild _ _, ml_ild _ _⟩ ?_
  refine mb_l_cons ⟨mm_zald _, ml_zald _⟩ ?_
  refine mb_l_cons ⟨mm_if1 _ _ _, ml_if1 _ _ _⟩ ?_
  refine mb_l_cons ⟨mm_ald _ _, ml_ald _ _⟩ ?_
  refine mb_l_cons ⟨mm_getf _ _ _, ml_getf _ _ _⟩ ?_
  refine mb_l_cons ⟨mm_ild _ _, ml_ild _ _⟩ ?_
  refine mb_l_cons ⟨mm_iald _, ml_iald _⟩ ?_
  refine mb_l_cons ⟨mm_push _ _, ml_push _ _⟩ ?_
  refine mb_l_cons ⟨mm_if2 _ _ _, ml_if2 _ _ _⟩ ?_
  refine mb_l_cons ⟨mm_ald _ _, ml_ald _ _⟩ ?_
  refine mb_l_cons ⟨mm_ild _ _, ml_ild _ _⟩ ?_
  refine mb_l_cons ⟨mm_ild _ _, ml_ild _ _⟩ ?_
  refine mb_l_cons ⟨mm_callv _ _ _ _ _, ml_callv _ _ _ _ _⟩ ?_
  refine mb_l_cons ⟨mm_if1 _ _ _, ml_if1 _ _ _⟩ ?_
  refine mb_l_cons ⟨mm_push _ _, ml_push _ _⟩ ?_
  refine mb_l_cons ⟨mm_go _, ml_go _⟩ ?_
  refine mb_l_cons ⟨mm_push _ _, ml_push _ _⟩ ?_
  refine mb_l_cons ⟨mm_iadd _, ml_iadd _⟩ ?_
  refine mb_l_cons ⟨mm_ist _ _, ml_ist _ _⟩ ?_
  refine mb_l_cons ⟨mm_iinc _ _ _, ml_iinc _ _ _⟩ ?_
  refine mb_l_cons ⟨mm_go _, ml_go _⟩ ?_
  refine mb_l_cons ⟨mm_ild _ _, ml_ild _ _⟩ ?_
  refine mb_l_cons ⟨mm_iret, ml_iret⟩ ?_
  exact mb_l_nil
theorem mz_X8_mixes : ∀ pc i, mb_look mc_X8_mixes pc = some i → mb_Mon i ∧ mb_Le i := by
  unfold mc_X8_mixes
  refine mb_l_cons ⟨mm_ald _ _, ml_ald _ _⟩ ?_
  refine mb_l_cons ⟨mm_ald _ _, ml_ald _ _⟩ ?_
  refine mb_l_cons ⟨mm_ild _ _, ml_ild _ _⟩ ?_
  refine mb_l_cons ⟨mm_callv _ _ _ _ _, ml_callv _ _ _ _ _⟩ ?_
  refine mb_l_cons ⟨mm_if1 _ _ _, ml_if1 _ _ _⟩ ?_
  refine mb_l_cons ⟨mm_push _ _, ml_push _ _⟩ ?_
  refine mb_l_cons ⟨mm_go _, ml_go _⟩ ?_
  refine mb_l_cons ⟨mm_push _ _, ml_push _ _⟩ ?_
  refine mb_l_cons ⟨mm_callv _ _ _ _ _, ml_callv _ _ _ _ _⟩ ?_
  refine mb_l_cons ⟨mm_if1 _ _ _, ml_if1 _ _ _⟩ ?_
  refine mb_l_cons ⟨mm_ald _ _, ml_ald _ _⟩ ?_
  refine mb_l_cons ⟨mm_ild _ _, ml_ild _ _⟩ ?_
  refine mb_l_cons ⟨mm_callv _ _ _ _ _, ml_callv _ _ _ _ _⟩ ?_
  refine mb_l_cons ⟨mm_go _, ml_go _⟩ ?_
  refine mb_l_cons ⟨mm_push _ _, ml_push _ _⟩ ?_
  refine mb_l_cons ⟨mm_iret, ml_iret⟩ ?_
  exact mb_l_nil
theorem mz_X8_bonesAt : ∀ pc i, mb_look mc_X8_bonesAt pc = some i → mb_Mon i ∧ mb_Le i := by
  unfold mc_X8_bonesAt
  refine mb_l_cons ⟨mm_push _ _, ml_push _ _⟩ ?_
  refine mb_l_cons ⟨mm_ist _ _, ml_ist _ _⟩ ?_
  refine mb_l_cons ⟨mm_push _ _, ml_push _ _⟩ ?_
  refine mb_l_cons ⟨mm_ist _ _, ml_ist _ _⟩ ?_
  refine mb_l_cons ⟨mm_ild _ _, ml_ild _ _⟩ ?_
  refine mb_l_cons ⟨mm_ald _ _, ml_ald _ _⟩ ?_
  refine mb_l_cons ⟨mm_getf _ _ _, ml_getf _ _ _⟩ ?_
  refine mb_l_cons ⟨mm_if2 _ _ _, ml_if2 _ _ _⟩ ?_
  refine mb_l_cons ⟨mm_ild _ _, ml_ild _ _⟩ ?_
  refine mb_l_cons ⟨mm_ald _ _, ml_ald _ _⟩ ?_
  refine mb_l_cons ⟨mm_ild _ _, ml_ild _ _⟩ ?_
  refine mb_l_cons ⟨mm_ild _ _, ml_ild _ _⟩ ?_
  refine mb_l_cons ⟨mm_ild _ _, ml_ild _ _⟩ ?_
  refine mb_l_cons ⟨mm_callv _ _ _ _ _, ml_callv _ _ _ _ _⟩ ?_
  refine mb_l_cons ⟨mm_iadd _, ml_iadd _⟩ ?_
  refine mb_l_cons ⟨mm_ist _ _, ml_ist _ _⟩ ?_
  refine mb_l_cons ⟨mm_iinc _ _ _, ml_iinc _ _ _⟩ ?_
  refine mb_l_cons ⟨mm_go _, ml_go _⟩ ?_
  refine mb_l_cons ⟨mm_ild _ _, ml_ild _ _⟩ ?_
  refine mb_l_cons ⟨mm_iret, ml_iret⟩ ?_
  exact mb_l_nil
theorem mz_X8_toldFrame : ∀ pc i, mb_look mc_X8_toldFrame pc = some i → mb_Mon i ∧ mb_Le i := by
  unfold mc_X8_toldFrame
  refine mb_l_cons ⟨mm_push _ _, ml_push _ _⟩ ?_
  refine mb_l_cons ⟨mm_ild _ _, ml_ild _ _⟩ ?_
  refine mb_l_cons ⟨mm_imul _, ml_imul _⟩ ?_
  refine mb_l_cons ⟨mm_ild _ _, ml_ild _ _⟩ ?_
  refine mb_l_cons ⟨mm_iadd _, ml_iadd _⟩ ?_
  refine mb_l_cons ⟨mm_ist _ _, ml_ist _ _⟩ ?_
  refine mb_l_cons ⟨mm_ild _ _, ml_ild _ _⟩ ?_
  refine mb_l_cons ⟨mm_tsw _ _, ml_tsw _ _⟩ ?_
  refine mb_l_cons ⟨mm_ald _ _, ml_ald _ _⟩ ?_
  refine mb_l_cons ⟨mm_getf _ _ _, ml_getf _ _ _⟩ ?_
  refine mb_l_cons ⟨mm_ild _ _, ml_ild _ _⟩ ?_
  refine mb_l_cons ⟨mm_iald _, ml_iald _⟩ ?_
  refine mb_l_cons ⟨mm_iret, ml_iret⟩ ?_
  refine mb_l_cons ⟨mm_ald _ _, ml_ald _ _⟩ ?_
  refine mb_l_cons ⟨mm_getf _ _ _, ml_getf _ _ _⟩ ?_
  refine mb_l_cons ⟨mm_ild _ _, ml_ild _ _⟩ ?_
  refine mb_l_cons ⟨mm_iald _, ml_iald _⟩ ?_
  refine mb_l_cons ⟨mm_if1 _ _ _, ml_if1 _ _ _⟩ ?_
  refine mb_l_cons ⟨mm_push _ _, ml_push _ _⟩ ?_
  refine mb_l_cons ⟨mm_go _, ml_go _⟩ ?_
  refine mb_l_cons ⟨mm_push _ _, ml_push _ _⟩ ?_
  refine mb_l_cons ⟨mm_iret, ml_iret⟩ ?_
  refine mb_l_cons ⟨mm_ald _ _, ml_ald _ _⟩ ?_
  refine mb_l_cons ⟨mm_ild _ _, ml_ild _ _⟩ ?_
  refine mb_l_cons ⟨mm_ild _ _, ml_ild _ _⟩ ?_
  refine mb_l_cons ⟨mm_callv _ _ _ _ _, ml_callv _ _ _ _ _⟩ ?_
  refine mb_l_cons ⟨mm_if1 _ _ _, ml_if1 _ _ _⟩ ?_
  refine mb_l_cons ⟨mm_push _ _, ml_push _ _⟩ ?_
  refine mb_l_cons ⟨mm_go _, ml_go _⟩ ?_
  refine mb_l_cons ⟨mm_push _ _, ml_push _ _⟩ ?_
  refine mb_l_cons ⟨mm_iret, ml_iret⟩ ?_
  refine mb_l_cons ⟨mm_ald _ _, ml_ald _ _⟩ ?_
  refine mb_l_cons ⟨mm_ild _ _, ml_ild _ _⟩ ?_
  refine mb_l_cons ⟨mm_ild _ _, ml_ild _ _⟩ ?_
  refine mb_l_cons ⟨mm_callv _ _ _ _ _, ml_callv _ _ _ _ _⟩ ?_
  refine mb_l_cons ⟨mm_iret, ml_iret⟩ ?_
  refine mb_l_cons ⟨mm_ald _ _, ml_ald _ _⟩ ?_
  refine mb_l_cons ⟨mm_ild _ _, ml_ild _ _⟩ ?_
  refine mb_l_cons ⟨mm_ild _ _, ml_ild _ _⟩ ?_
  refine mb_l_cons ⟨mm_callv _ _ _ _ _, ml_callv _ _ _ _ _⟩ ?_
  refine mb_l_cons ⟨mm_iret, ml_iret⟩ ?_
  refine mb_l_cons ⟨mm_ald _ _, ml_ald _ _⟩ ?_
  refine mb_l_cons ⟨mm_getf _ _ _, ml_getf _ _ _⟩ ?_
  refine mb_l_cons ⟨mm_ild _ _, ml_ild _ _⟩ ?_
  refine mb_l_cons ⟨mm_iald _, ml_iald _⟩ ?_
  refine mb_l_cons ⟨mm_iret, ml_iret⟩ ?_
  exact mb_l_nil
theorem mz_X8_ofFrame : ∀ pc i, mb_look mc_X8_ofFrame pc = some i → mb_Mon i ∧ mb_Le i := by
  unfold mc_X8_ofFrame
  refine mb_l_cons ⟨mm_ald _ _, ml_ald _ _⟩ ?_
  refine mb_l_cons ⟨mm_ald _ _, ml_ald _ _⟩ ?_
  refine mb_l_cons ⟨mm_ild _ _, ml_ild _ _⟩ ?_
  refine mb_l_cons ⟨mm_ild _ _, ml_ild _ _⟩ ?_
  refine mb_l_cons ⟨mm_callv _ _ _ _ _, ml_callv _ _ _ _ _⟩ ?_
  refine mb_l_cons ⟨mm_if1 _ _ _, ml_if1 _ _ _⟩ ?_
  refine mb_l_cons ⟨mm_ild _ _, ml_ild _ _⟩ ?_
  refine mb_l_cons ⟨mm_push _ _, ml_push _ _⟩ ?_
  refine mb_l_cons ⟨mm_push _ _, ml_push _ _⟩ ?_
  refine mb_l_cons ⟨mm_calls _ _ _, ml_calls _ _ _⟩ ?_
  refine mb_l_cons ⟨mm_if1 _ _ _, ml_if1 _ _ _⟩ ?_
  refine mb_l_cons ⟨mm_push _ _, ml_push _ _⟩ ?_
  refine mb_l_cons ⟨mm_go _, ml_go _⟩ ?_
  refine mb_l_cons ⟨mm_push _ _, ml_push _ _⟩ ?_
  refine mb_l_cons ⟨mm_callv _ _ _ _ _, ml_callv _ _ _ _ _⟩ ?_
  refine mb_l_cons ⟨mm_if1 _ _ _, ml_if1 _ _ _⟩ ?_
  refine mb_l_cons ⟨mm_ald _ _, ml_ald _ _⟩ ?_
  refine mb_l_cons ⟨mm_ild _ _, ml_ild _ _⟩ ?_
  refine mb_l_cons ⟨mm_ild _ _, ml_ild _ _⟩ ?_
  refine mb_l_cons ⟨mm_ild _ _, ml_ild _ _⟩ ?_
  refine mb_l_cons ⟨mm_callv _ _ _ _ _, ml_callv _ _ _ _ _⟩ ?_
  refine mb_l_cons ⟨mm_go _, ml_go _⟩ ?_
  refine mb_l_cons ⟨mm_push _ _, ml_push _ _⟩ ?_
  refine mb_l_cons ⟨mm_iret, ml_iret⟩ ?_
  exact mb_l_nil
theorem mz_X8_kept : ∀ pc i, mb_look mc_X8_kept pc = some i → mb_Mon i ∧ mb_Le i := by
  unfold mc_X8_kept
  refine mb_l_cons ⟨mm_ald _ _, ml_ald _ _⟩ ?_
  refine mb_l_cons ⟨mm_ald _ _, ml_ald _ _⟩ ?_
  refine mb_l_cons ⟨mm_ild _ _, ml_ild _ _⟩ ?_
  refine mb_l_cons ⟨mm_ild _ _, ml_ild _ _⟩ ?_
  refine mb_l_cons ⟨mm_callv _ _ _ _ _, ml_callv _ _ _ _ _⟩ ?_
  refine mb_l_cons ⟨mm_if1 _ _ _, ml_if1 _ _ _⟩ ?_
  refine mb_l_cons ⟨mm_ald _ _, ml_ald _ _⟩ ?_
  refine mb_l_cons ⟨mm_ild _ _, ml_ild _ _⟩ ?_
  refine mb_l_cons ⟨mm_callv _ _ _ _ _, ml_callv _ _ _ _ _⟩ ?_
  refine mb_l_cons ⟨mm_if1 _ _ _, ml_if1 _ _ _⟩ ?_
  refine mb_l_cons ⟨mm_push _ _, ml_push _ _⟩ ?_
  refine mb_l_cons ⟨mm_go _, ml_go _⟩ ?_
  refine mb_l_cons ⟨mm_push _ _, ml_push _ _⟩ ?_
  refine mb_l_cons ⟨mm_callv _ _ _ _ _, ml_callv _ _ _ _ _⟩ ?_
  refine mb_l_cons ⟨mm_if1 _ _ _, ml_if1 _ _ _⟩ ?_
  refine mb_l_cons ⟨mm_push _ _, ml_push _ _⟩ ?_
  refine mb_l_cons ⟨mm_iret, ml_iret⟩ ?_
  refine mb_l_cons ⟨mm_push _ _, ml_push _ _⟩ ?_
  refine mb_l_cons ⟨mm_ild _ _, ml_ild _ _⟩ ?_
  refine mb_l_cons ⟨mm_imul _, ml_imul _⟩ ?_
  refine mb_l_cons ⟨mm_ild _ _, ml_ild _ _⟩ ?_
  refine mb_l_cons ⟨mm_iadd _, ml_iadd _⟩ ?_
  refine mb_l_cons ⟨mm_ist _ _, ml_ist _ _⟩ ?_
  refine mb_l_cons ⟨mm_ald _ _, ml_ald _ _⟩ ?_
  refine mb_l_cons ⟨mm_getf _ _ _, ml_getf _ _ _⟩ ?_
  refine mb_l_cons ⟨mm_ild _ _, ml_ild _ _⟩ ?_
  refine mb_l_cons ⟨mm_iald _, ml_iald _⟩ ?_
  refine mb_l_cons ⟨mm_if1 _ _ _, ml_if1 _ _ _⟩ ?_
  refine mb_l_cons ⟨mm_push _ _, ml_push _ _⟩ ?_
  refine mb_l_cons ⟨mm_go _, ml_go _⟩ ?_
  refine mb_l_cons ⟨mm_ald _ _, ml_ald _ _⟩ ?_
  refine mb_l_cons ⟨mm_getf _ _ _, ml_getf _ _ _⟩ ?_
  refine mb_l_cons ⟨mm_push _ _, ml_push _ _⟩ ?_
  refine mb_l_cons ⟨mm_ild _ _, ml_ild _ _⟩ ?_
  refine mb_l_cons ⟨mm_imul _, ml_imul _⟩ ?_
  refine mb_l_cons ⟨mm_ild _ _, ml_ild _ _⟩ ?_
  refine mb_l_cons ⟨mm_iadd _, ml_iadd _⟩ ?_
  refine mb_l_cons ⟨mm_iald _, ml_iald _⟩ ?_
  refine mb_l_cons ⟨mm_iret, ml_iret⟩ ?_
  exact mb_l_nil
theorem mz_X8_countOf : ∀ pc i, mb_look mc_X8_countOf pc = some i → mb_Mon i ∧ mb_Le i := by
  unfold mc_X8_countOf
  refine mb_l_cons ⟨mm_ild _ _, ml_ild _ _⟩ ?_
  refine mb_l_cons ⟨mm_if1 _ _ _, ml_if1 _ _ _⟩ ?_
  refine mb_l_cons ⟨mm_ild _ _, ml_ild _ _⟩ ?_
  refine mb_l_cons ⟨mm_push _ _, ml_push _ _⟩ ?_
  refine mb_l_cons ⟨mm_if2 _ _ _, ml_if2 _ _ _⟩ ?_
  refine mb_l_cons ⟨mm_ild _ _, ml_ild _ _⟩ ?_
  refine mb_l_cons ⟨mm_push _ _, ml_push _ _⟩ ?_
  refine mb_l_cons ⟨mm_if2 _ _ _, ml_if2 _ _ _⟩ ?_
  refine mb_l_cons ⟨mm_ild _ _, ml_ild _ _⟩ ?_
  refine mb_l_cons ⟨mm_if1 _ _ _, ml_if1 _ _ _⟩ ?_
  refine mb_l_cons ⟨mm_ald _ _, ml_ald _ _⟩ ?_
  refine mb_l_cons ⟨mm_getf _ _ _, ml_getf _ _ _⟩ ?_
  refine mb_l_cons ⟨mm_go _, ml_go _⟩ ?_
  refine mb_l_cons ⟨mm_ild _ _, ml_ild _ _⟩ ?_
  refine mb_l_cons ⟨mm_push _ _, ml_push _ _⟩ ?_
  refine mb_l_cons ⟨mm_if2 _ _ _, ml_if2 _ _ _⟩ ?_
  refine mb_l_cons ⟨mm_ald _ _, ml_ald _ _⟩ ?_
  refine mb_l_cons ⟨mm_getf _ _ _, ml_getf _ _ _⟩ ?_
  refine mb_l_cons ⟨mm_go _, ml_go _⟩ ?_
  refine mb_l_cons ⟨mm_ild _ _, ml_ild _ _⟩ ?_
  refine mb_l_cons ⟨mm_push _ _, ml_push _ _⟩ ?_
  refine mb_l_cons ⟨mm_if2 _ _ _, ml_if2 _ _ _⟩ ?_
  refine mb_l_cons ⟨mm_ald _ _, ml_ald _ _⟩ ?_
  refine mb_l_cons ⟨mm_getf _ _ _, ml_getf _ _ _⟩ ?_
  refine mb_l_cons ⟨mm_go _, ml_go _⟩ ?_
  refine mb_l_cons ⟨mm_ald _ _, ml_ald _ _⟩ ?_
  refine mb_l_cons ⟨mm_push _ _, ml_push _ _⟩ ?_
  refine mb_l_cons ⟨mm_push _ _, ml_push _ _⟩ ?_
  refine mb_l_cons ⟨mm_callv _ _ _ _ _, ml_callv _ _ _ _ _⟩ ?_
  refine mb_l_cons ⟨mm_iret, ml_iret⟩ ?_
  refine mb_l_cons ⟨mm_push _ _, ml_push _ _⟩ ?_
  refine mb_l_cons ⟨mm_ist _ _, ml_ist _ _⟩ ?_
  refine mb_l_cons ⟨mm_push _ _, ml_push _ _⟩ ?_
  refine mb_l_cons ⟨mm_ist _ _, ml_ist _ _⟩ ?_
  refine mb_l_cons ⟨mm_ild _ _, ml_ild _ _⟩ ?_
  refine mb_l_cons ⟨mm_push _ _, ml_push _ _⟩ ?_
  refine mb_l_cons ⟨mm_if2 _ _ _, ml_if2 _ _ _⟩ ?_
  refine mb_l_cons ⟨mm_ild _ _, ml_ild _ _⟩ ?_
  refine mb_l_cons ⟨mm_ild _ _, ml_ild _ _⟩ ?_
  refine mb_l_cons ⟨mm_push _ _, ml_push _ _⟩ ?_
  refine mb_l_cons ⟨mm_if2 _ _ _, ml_if2 _ _ _⟩ ?_
  refine mb_l_cons ⟨mm_ild _ _, ml_ild _ _⟩ ?_
  refine mb_l_cons ⟨mm_ald _ _, ml_ald _ _⟩ ?_
  refine mb_l_cons ⟨mm_getf _ _ _, ml_getf _ _ _⟩ ?_
  refine mb_l_cons ⟨mm_if2 _ _ _, ml_if2 _ _ _⟩ ?_
  refine mb_l_cons ⟨mm_ald _ _, ml_ald _ _⟩ ?_
  refine mb_l_cons ⟨mm_getf _ _ _, ml_getf _ _ _⟩ ?_
  refine mb_l_cons ⟨mm_ild _ _, ml_ild _ _⟩ ?_
  refine mb_l_cons ⟨mm_iald _, ml_iald _⟩ ?_
  refine mb_l_cons ⟨mm_go _, ml_go _⟩ ?_
  refine mb_l_cons ⟨mm_push _ _, ml_push _ _⟩ ?_
  refine mb_l_cons ⟨mm_go _, ml_go _⟩ ?_
  refine mb_l_cons ⟨mm_ild _ _, ml_ild _ _⟩ ?_
  refine mb_l_cons ⟨mm_ald _ _, ml_ald _ _⟩ ?_
  refine mb_l_cons ⟨mm_getf _ _ _, ml_getf _ _ _⟩ ?_
  refine mb_l_cons ⟨mm_if2 _ _ _, ml_if2 _ _ _⟩ ?_
  refine mb_l_cons ⟨mm_push _ _, ml_push _ _⟩ ?_
  refine mb_l_cons ⟨mm_go _, ml_go _⟩ ?_
  refine mb_l_cons ⟨mm_ild _ _, ml_ild _ _⟩ ?_
  refine mb_l_cons ⟨mm_push _ _, ml_push _ _⟩ ?_
  refine mb_l_cons ⟨mm_if2 _ _ _, ml_if2 _ _ _⟩ ?_
  refine mb_l_cons ⟨mm_ald _ _, ml_ald _ _⟩ ?_
  refine mb_l_cons ⟨mm_getf _ _ _, ml_getf _ _ _⟩ ?_
  refine mb_l_cons ⟨mm_ild _ _, ml_ild _ _⟩ ?_
  refine mb_l_cons ⟨mm_iald _, ml_iald _⟩ ?_
  refine mb_l_cons ⟨mm_go _, ml_go _⟩ ?_
  refine mb_l_cons ⟨mm_ald _ _, ml_ald _ _⟩ ?_
  refine mb_l_cons ⟨mm_ild _ _, ml_ild _ _⟩ ?_
  refine mb_l_cons ⟨mm_callv _ _ _ _ _, ml_callv _ _ _ _ _⟩ ?_
  refine mb_l_cons ⟨mm_iadd _, ml_iadd _⟩ ?_
  refine mb_l_cons ⟨mm_ist _ _, ml_ist _ _⟩ ?_
  refine mb_l_cons ⟨mm_iinc _ _ _, ml_iinc _ _ _⟩ ?_
  refine mb_l_cons ⟨mm_go _, ml_go _⟩ ?_
  refine mb_l_cons ⟨mm_ild _ _, ml_ild _ _⟩ ?_
  refine mb_l_cons ⟨mm_iret, ml_iret⟩ ?_
  exact mb_l_nil
theorem mz_X8_count : ∀ pc i, mb_look mc_X8_count pc = some i → mb_Mon i ∧ mb_Le i := by
  unfold mc_X8_count
  refine mb_l_cons ⟨mm_ald _ _, ml_ald _ _⟩ ?_
  refine mb_l_cons ⟨mm_ild _ _, ml_ild _ _⟩ ?_
  refine mb_l_cons ⟨mm_push _ _, ml_push _ _⟩ ?_
  refine mb_l_cons ⟨mm_push _ _, ml_push _ _⟩ ?_
  refine mb_l_cons ⟨mm_calls _ _ _, ml_calls _ _ _⟩ ?_
  refine mb_l_cons ⟨mm_if1 _ _ _, ml_if1 _ _ _⟩ ?_
  refine mb_l_cons ⟨mm_push _ _, ml_push _ _⟩ ?_
  refine mb_l_cons ⟨mm_go _, ml_go _⟩ ?_
  refine mb_l_cons ⟨mm_push _ _, ml_push _ _⟩ ?_
  refine mb_l_cons ⟨mm_callv _ _ _ _ _, ml_callv _ _ _ _ _⟩ ?_
  refine mb_l_cons ⟨mm_if1 _ _ _, ml_if1 _ _ _⟩ ?_
  refine mb_l_cons ⟨mm_ald _ _, ml_ald _ _⟩ ?_
  refine mb_l_cons ⟨mm_ild _ _, ml_ild _ _⟩ ?_
  refine mb_l_cons ⟨mm_callv _ _ _ _ _, ml_callv _ _ _ _ _⟩ ?_
  refine mb_l_cons ⟨mm_go _, ml_go _⟩ ?_
  refine mb_l_cons ⟨mm_push _ _, ml_push _ _⟩ ?_
  refine mb_l_cons ⟨mm_iret, ml_iret⟩ ?_
  exact mb_l_nil
theorem mz_J9_floorDiv_7cf53 : ∀ pc i, mb_look mc_J9_floorDiv_7cf53 pc = some i → mb_Mon i ∧ mb_Le i := by
  unfold mc_J9_floorDiv_7cf53
  refine mb_l_cons ⟨mm_ild _ _, ml_ild _ _⟩ ?_
  refine mb_l_cons ⟨mm_ild _ _, ml_ild _ _⟩ ?_
  refine mb_l_cons ⟨mm_idiv _, ml_idiv _⟩ ?_
  refine mb_l_cons ⟨mm_ist _ _, ml_ist _ _⟩ ?_
  refine mb_l_cons ⟨mm_ild _ _, ml_ild _ _⟩ ?_
  refine mb_l_cons ⟨mm_ild _ _, ml_ild _ _⟩ ?_
  refine mb_l_cons ⟨mm_ixor _, ml_ixor _⟩ ?_
  refine mb_l_cons ⟨mm_if1 _ _ _, ml_if1 _ _ _⟩ ?_
  refine mb_l_cons ⟨mm_ild _ _, ml_ild _ _⟩ ?_
  refine mb_l_cons ⟨mm_ild _ _, ml_ild _ _⟩ ?_
  refine mb_l_cons ⟨mm_imul _, ml_imul _⟩ ?_
  refine mb_l_cons ⟨mm_ild _ _, ml_ild _ _⟩ ?_
  refine mb_l_cons ⟨mm_if2 _ _ _, ml_if2 _ _ _⟩ ?_
  refine mb_l_cons ⟨mm_ild _ _, ml_ild _ _⟩ ?_
  refine mb_l_cons ⟨mm_push _ _, ml_push _ _⟩ ?_
  refine mb_l_cons ⟨mm_isub _, ml_isub _⟩ ?_
  refine mb_l_cons ⟨mm_iret, ml_iret⟩ ?_
  refine mb_l_cons ⟨mm_ild _ _, ml_ild _ _⟩ ?_
  refine mb_l_cons ⟨mm_iret, ml_iret⟩ ?_
  exact mb_l_nil
theorem mz_L_asset : ∀ pc i, mb_look mc_L_asset pc = some i → mb_Mon i ∧ mb_Le i := by
  unfold mc_L_asset
  refine mb_l_cons ⟨mm_ald _ _, ml_ald _ _⟩ ?_
  refine mb_l_cons ⟨mm_push _ _, ml_push _ _⟩ ?_
  refine mb_l_cons ⟨mm_ald _ _, ml_ald _ _⟩ ?_
  refine mb_l_cons ⟨mm_callv _ _ _ _ _, ml_callv _ _ _ _ _⟩ ?_
  refine mb_l_cons ⟨mm_i2l _, ml_i2l _⟩ ?_
  refine mb_l_cons ⟨mm_last _, ml_last _⟩ ?_
  refine mb_l_cons ⟨mm_go _, ml_go _⟩ ?_
  refine mb_l_cons ⟨mm_ast _ _, ml_ast _ _⟩ ?_
  refine mb_l_cons ⟨mm_push _ _, ml_push _ _⟩ ?_
  refine mb_l_cons ⟨mm_iret, ml_iret⟩ ?_
  refine mb_l_cons ⟨mm_push _ _, ml_push _ _⟩ ?_
  refine mb_l_cons ⟨mm_iret, ml_iret⟩ ?_
  exact mb_l_nil
theorem mz_L_bone : ∀ pc i, mb_look mc_L_bone pc = some i → mb_Mon i ∧ mb_Le i := by
  unfold mc_L_bone
  refine mb_l_cons ⟨mm_ald _ _, ml_ald _ _⟩ ?_
  refine mb_l_cons ⟨mm_push _ _, ml_push _ _⟩ ?_
  refine mb_l_cons ⟨mm_ald _ _, ml_ald _ _⟩ ?_
  refine mb_l_cons ⟨mm_ild _ _, ml_ild _ _⟩ ?_
  refine mb_l_cons ⟨mm_ild _ _, ml_ild _ _⟩ ?_
  refine mb_l_cons ⟨mm_callv _ _ _ _ _, ml_callv _ _ _ _ _⟩ ?_
  refine mb_l_cons ⟨mm_i2l _, ml_i2l _⟩ ?_
  refine mb_l_cons ⟨mm_last _, ml_last _⟩ ?_
  refine mb_l_cons ⟨mm_go _, ml_go _⟩ ?_
  refine mb_l_cons ⟨mm_ast _ _, ml_ast _ _⟩ ?_
  refine mb_l_cons ⟨mm_push _ _, ml_push _ _⟩ ?_
  refine mb_l_cons ⟨mm_iret, ml_iret⟩ ?_
  refine mb_l_cons ⟨mm_ast _ _, ml_ast _ _⟩ ?_
  refine mb_l_cons ⟨mm_push _ _, ml_push _ _⟩ ?_
  refine mb_l_cons ⟨mm_iret, ml_iret⟩ ?_
  refine mb_l_cons ⟨mm_push _ _, ml_push _ _⟩ ?_
  refine mb_l_cons ⟨mm_iret, ml_iret⟩ ?_
  exact mb_l_nil
theorem mz_L_key : ∀ pc i, mb_look mc_L_key pc = some i → mb_Mon i ∧ mb_Le i := by
  unfold mc_L_key
  refine mb_l_cons ⟨mm_ald _ _, ml_ald _ _⟩ ?_
  refine mb_l_cons ⟨mm_push _ _, ml_push _ _⟩ ?_
  refine mb_l_cons ⟨mm_ald _ _, ml_ald _ _⟩ ?_
  refine mb_l_cons ⟨mm_ild _ _, ml_ild _ _⟩ ?_
  refine mb_l_cons ⟨mm_ild _ _, ml_ild _ _⟩ ?_
  refine mb_l_cons ⟨mm_ild _ _, ml_ild _ _⟩ ?_
  refine mb_l_cons ⟨mm_ild _ _, ml_ild _ _⟩ ?_
  refine mb_l_cons ⟨mm_ild _ _, ml_ild _ _⟩ ?_
  refine mb_l_cons ⟨mm_callv _ _ _ _ _, ml_callv _ _ _ _ _⟩ ?_
  refine mb_l_cons ⟨mm_i2l _, ml_i2l _⟩ ?_
  refine mb_l_cons ⟨mm_last _, ml_last _⟩ ?_
  refine mb_l_cons ⟨mm_go _, ml_go _⟩ ?_
  refine mb_l_cons ⟨mm_ast _ _, ml_ast _ _⟩ ?_
  refine mb_l_cons ⟨mm_push _ _, ml_push _ _⟩ ?_
  refine mb_l_cons ⟨mm_iret, ml_iret⟩ ?_
  refine mb_l_cons ⟨mm_ast _ _, ml_ast _ _⟩ ?_
  refine mb_l_cons ⟨mm_push _ _, ml_push _ _⟩ ?_
  refine mb_l_cons ⟨mm_iret, ml_iret⟩ ?_
  refine mb_l_cons ⟨mm_ast _ _, ml_ast _ _⟩ ?_
  refine mb_l_cons ⟨mm_push _ _, ml_push _ _⟩ ?_
  refine mb_l_cons ⟨mm_iret, ml_iret⟩ ?_
  refine mb_l_cons ⟨mm_push _ _, ml_push _ _⟩ ?_
  refine mb_l_cons ⟨mm_iret, ml_iret⟩ ?_
  exact mb_l_nil
theorem mz_L_unkey : ∀ pc i, mb_look mc_L_unkey pc = some i → mb_Mon i ∧ mb_Le i := by
  unfold mc_L_unkey
  refine mb_l_cons ⟨mm_ald _ _, ml_ald _ _⟩ ?_
  refine mb_l_cons ⟨mm_push _ _, ml_push _ _⟩ ?_
  refine mb_l_cons ⟨mm_ald _ _, ml_ald _ _⟩ ?_
  refine mb_l_cons ⟨mm_ild _ _, ml_ild _ _⟩ ?_
  refine mb_l_cons ⟨mm_ild _ _, ml_ild _ _⟩ ?_
  refine mb_l_cons ⟨mm_ild _ _, ml_ild _ _⟩ ?_
  refine mb_l_cons ⟨mm_callv _ _ _ _ _, ml_callv _ _ _ _ _⟩ ?_
  refine mb_l_cons ⟨mm_if1 _ _ _, ml_if1 _ _ _⟩ ?_
  refine mb_l_cons ⟨mm_push _ _, ml_push _ _⟩ ?_
  refine mb_l_cons ⟨mm_go _, ml_go _⟩ ?_
  refine mb_l_cons ⟨mm_push _ _, ml_push _ _⟩ ?_
  refine mb_l_cons ⟨mm_last _, ml_last _⟩ ?_
  refine mb_l_cons ⟨mm_go _, ml_go _⟩ ?_
  refine mb_l_cons ⟨mm_ast _ _, ml_ast _ _⟩ ?_
  refine mb_l_cons ⟨mm_push _ _, ml_push _ _⟩ ?_
  refine mb_l_cons ⟨mm_iret, ml_iret⟩ ?_
  refine mb_l_cons ⟨mm_ast _ _, ml_ast _ _⟩ ?_
  refine mb_l_cons ⟨mm_push _ _, ml_push _ _⟩ ?_
  refine mb_l_cons ⟨mm_iret, ml_iret⟩ ?_
  refine mb_l_cons ⟨mm_push _ _, ml_push _ _⟩ ?_
  refine mb_l_cons ⟨mm_iret, ml_iret⟩ ?_
  exact mb_l_nil
theorem mz_L_publish : ∀ pc i, mb_look mc_L_publish pc = some i → mb_Mon i ∧ mb_Le i := by
  unfold mc_L_publish
  refine mb_l_cons ⟨mm_ald _ _, ml_ald _ _⟩ ?_
  refine mb_l_cons ⟨mm_push _ _, ml_push _ _⟩ ?_
  refine mb_l_cons ⟨mm_ald _ _, ml_ald _ _⟩ ?_
  refine mb_l_cons ⟨mm_ild _ _, ml_ild _ _⟩ ?_
  refine mb_l_cons ⟨mm_callv _ _ _ _ _, ml_callv _ _ _ _ _⟩ ?_
  refine mb_l_cons ⟨mm_i2l _, ml_i2l _⟩ ?_
  refine mb_l_cons ⟨mm_last _, ml_last _⟩ ?_
  refine mb_l_cons ⟨mm_go _, ml_go _⟩ ?_
  refine mb_l_cons ⟨mm_ast _ _, ml_ast _ _⟩ ?_
  refine mb_l_cons ⟨mm_push _ _, ml_push _ _⟩ ?_
  refine mb_l_cons ⟨mm_iret, ml_iret⟩ ?_
  refine mb_l_cons ⟨mm_ast _ _, ml_ast _ _⟩ ?_
  refine mb_l_cons ⟨mm_push _ _, ml_push _ _⟩ ?_
  refine mb_l_cons ⟨mm_iret, ml_iret⟩ ?_
  refine mb_l_cons ⟨mm_push _ _, ml_push _ _⟩ ?_
  refine mb_l_cons ⟨mm_iret, ml_iret⟩ ?_
  exact mb_l_nil
theorem mz_L_pose : ∀ pc i, mb_look mc_L_pose pc = some i → mb_Mon i ∧ mb_Le i := by
  unfold mc_L_pose
  refine mb_l_cons ⟨mm_ald _ _, ml_ald _ _⟩ ?_
  refine mb_l_cons ⟨mm_push _ _, ml_push _ _⟩ ?_
  refine mb_l_cons ⟨mm_ald _ _, ml_ald _ _⟩ ?_
  refine mb_l_cons ⟨mm_ild _ _, ml_ild _ _⟩ ?_
  refine mb_l_cons ⟨mm_ild _ _, ml_ild _ _⟩ ?_
  refine mb_l_cons ⟨mm_ild _ _, ml_ild _ _⟩ ?_
  refine mb_l_cons ⟨mm_ild _ _, ml_ild _ _⟩ ?_
  refine mb_l_cons ⟨mm_callv _ _ _ _ _, ml_callv _ _ _ _ _⟩ ?_
  refine mb_l_cons ⟨mm_i2l _, ml_i2l _⟩ ?_
  refine mb_l_cons ⟨mm_last _, ml_last _⟩ ?_
  refine mb_l_cons ⟨mm_go _, ml_go _⟩ ?_
  refine mb_l_cons ⟨mm_ast _ _, ml_ast _ _⟩ ?_
  refine mb_l_cons ⟨mm_push _ _, ml_push _ _⟩ ?_
  refine mb_l_cons ⟨mm_iret, ml_iret⟩ ?_
  refine mb_l_cons ⟨mm_ast _ _, ml_ast _ _⟩ ?_
  refine mb_l_cons ⟨mm_push _ _, ml_push _ _⟩ ?_
  refine mb_l_cons ⟨mm_iret, ml_iret⟩ ?_
  refine mb_l_cons ⟨mm_push _ _, ml_push _ _⟩ ?_
  refine mb_l_cons ⟨mm_iret, ml_iret⟩ ?_
  exact mb_l_nil
theorem mz_L_poseAnew : ∀ pc i, mb_look mc_L_poseAnew pc = some i → mb_Mon i ∧ mb_Le i := by
  unfold mc_L_poseAnew
  refine mb_l_cons ⟨mm_ald _ _, ml_ald _ _⟩ ?_
  refine mb_l_cons ⟨mm_push _ _, ml_push _ _⟩ ?_
  refine mb_l_cons ⟨mm_ald _ _, ml_ald _ _⟩ ?_
  refine mb_l_cons ⟨mm_ild _ _, ml_ild _ _⟩ ?_
  refine mb_l_cons ⟨mm_ild _ _, ml_ild _ _⟩ ?_
  refine mb_l_cons ⟨mm_ild _ _, ml_ild _ _⟩ ?_
  refine mb_l_cons ⟨mm_ild _ _, ml_ild _ _⟩ ?_
  refine mb_l_cons ⟨mm_callv _ _ _ _ _, ml_callv _ _ _ _ _⟩ ?_
  refine mb_l_cons ⟨mm_i2l _, ml_i2l _⟩ ?_
  refine mb_l_cons ⟨mm_last _, ml_last _⟩ ?_
  refine mb_l_cons ⟨mm_go _, ml_go _⟩ ?_
  refine mb_l_cons ⟨mm_ast _ _, ml_ast _ _⟩ ?_
  refine mb_l_cons ⟨mm_push _ _, ml_push _ _⟩ ?_
  refine mb_l_cons ⟨mm_iret, ml_iret⟩ ?_
  refine mb_l_cons ⟨mm_ast _ _, ml_ast _ _⟩ ?_
  refine mb_l_cons ⟨mm_push _ _, ml_push _ _⟩ ?_
  refine mb_l_cons ⟨mm_iret, ml_iret⟩ ?_
  refine mb_l_cons ⟨mm_push _ _, ml_push _ _⟩ ?_
  refine mb_l_cons ⟨mm_iret, ml_iret⟩ ?_
  exact mb_l_nil
theorem mz_L_ofAsset : ∀ pc i, mb_look mc_L_ofAsset pc = some i → mb_Mon i ∧ mb_Le i := by
  unfold mc_L_ofAsset
  refine mb_l_cons ⟨mm_ald _ _, ml_ald _ _⟩ ?_
  refine mb_l_cons ⟨mm_push _ _, ml_push _ _⟩ ?_
  refine mb_l_cons ⟨mm_ald _ _, ml_ald _ _⟩ ?_
  refine mb_l_cons ⟨mm_ild _ _, ml_ild _ _⟩ ?_
  refine mb_l_cons ⟨mm_ild _ _, ml_ild _ _⟩ ?_
  refine mb_l_cons ⟨mm_callv _ _ _ _ _, ml_callv _ _ _ _ _⟩ ?_
  refine mb_l_cons ⟨mm_i2l _, ml_i2l _⟩ ?_
  refine mb_l_cons ⟨mm_last _, ml_last _⟩ ?_
  refine mb_l_cons ⟨mm_go _, ml_go _⟩ ?_
  refine mb_l_cons ⟨mm_ast _ _, ml_ast _ _⟩ ?_
  refine mb_l_cons ⟨mm_push _ _, ml_push _ _⟩ ?_
  refine mb_l_cons ⟨mm_iret, ml_iret⟩ ?_
  refine mb_l_cons ⟨mm_push _ _, ml_push _ _⟩ ?_
  refine mb_l_cons ⟨mm_iret, ml_iret⟩ ?_
  exact mb_l_nil
theorem mz_L_scene : ∀ pc i, mb_look mc_L_scene pc = some i → mb_Mon i ∧ mb_Le i := by
  unfold mc_L_scene
  refine mb_l_cons ⟨mm_ald _ _, ml_ald _ _⟩ ?_
  refine mb_l_cons ⟨mm_push _ _, ml_push _ _⟩ ?_
  refine mb_l_cons ⟨mm_ald _ _, ml_ald _ _⟩ ?_
  refine mb_l_cons ⟨mm_ild _ _, ml_ild _ _⟩ ?_
  refine mb_l_cons ⟨mm_callv _ _ _ _ _, ml_callv _ _ _ _ _⟩ ?_
  refine mb_l_cons ⟨mm_i2l _, ml_i2l _⟩ ?_
  refine mb_l_cons ⟨mm_last _, ml_last _⟩ ?_
  refine mb_l_cons ⟨mm_go _, ml_go _⟩ ?_
  refine mb_l_cons ⟨mm_ast _ _, ml_ast _ _⟩ ?_
  refine mb_l_cons ⟨mm_push _ _, ml_push _ _⟩ ?_
  refine mb_l_cons ⟨mm_iret, ml_iret⟩ ?_
  refine mb_l_cons ⟨mm_ast _ _, ml_ast _ _⟩ ?_
  refine mb_l_cons ⟨mm_push _ _, ml_push _ _⟩ ?_
  refine mb_l_cons ⟨mm_iret, ml_iret⟩ ?_
  refine mb_l_cons ⟨mm_push _ _, ml_push _ _⟩ ?_
  refine mb_l_cons ⟨mm_iret, ml_iret⟩ ?_
  exact mb_l_nil
theorem mz_L_cast : ∀ pc i, mb_look mc_L_cast pc = some i → mb_Mon i ∧ mb_Le i := by
  unfold mc_L_cast
  refine mb_l_cons ⟨mm_ald _ _, ml_ald _ _⟩ ?_
  refine mb_l_cons ⟨mm_push _ _, ml_push _ _⟩ ?_
  refine mb_l_cons ⟨mm_ald _ _, ml_ald _ _⟩ ?_
  refine mb_l_cons ⟨mm_ild _ _, ml_ild _ _⟩ ?_
  refine mb_l_cons ⟨mm_ild _ _, ml_ild _ _⟩ ?_
  refine mb_l_cons ⟨mm_ild _ _, ml_ild _ _⟩ ?_
  refine mb_l_cons ⟨mm_ild _ _, ml_ild _ _⟩ ?_
  refine mb_l_cons ⟨mm_ild _ _, ml_ild _ _⟩ ?_
  refine mb_l_cons ⟨mm_callv _ _ _ _ _, ml_callv _ _ _ _ _⟩ ?_
  refine mb_l_cons ⟨mm_i2l _, ml_i2l _⟩ ?_
  refine mb_l_cons ⟨mm_last _, ml_last _⟩ ?_
  refine mb_l_cons ⟨mm_go _, ml_go _⟩ ?_
  refine mb_l_cons ⟨mm_ast _ _, ml_ast _ _⟩ ?_
  refine mb_l_cons ⟨mm_push _ _, ml_push _ _⟩ ?_
  refine mb_l_cons ⟨mm_iret, ml_iret⟩ ?_
  refine mb_l_cons ⟨mm_ast _ _, ml_ast _ _⟩ ?_
  refine mb_l_cons ⟨mm_push _ _, ml_push _ _⟩ ?_
  refine mb_l_cons ⟨mm_iret, ml_iret⟩ ?_
  refine mb_l_cons ⟨mm_push _ _, ml_push _ _⟩ ?_
  refine mb_l_cons ⟨mm_iret, ml_iret⟩ ?_
  exact mb_l_nil
theorem mz_L_cut : ∀ pc i, mb_look mc_L_cut pc = some i → mb_Mon i ∧ mb_Le i := by
  unfold mc_L_cut
  refine mb_l_cons ⟨mm_ald _ _, ml_ald _ _⟩ ?_
  refine mb_l_cons ⟨mm_push _ _, ml_push _ _⟩ ?_
  refine mb_l_cons ⟨mm_ald _ _, ml_ald _ _⟩ ?_
  refine mb_l_cons ⟨mm_ild _ _, ml_ild _ _⟩ ?_
  refine mb_l_cons ⟨mm_ild _ _, ml_ild _ _⟩ ?_
  refine mb_l_cons ⟨mm_ild _ _, ml_ild _ _⟩ ?_
  refine mb_l_cons ⟨mm_callv _ _ _ _ _, ml_callv _ _ _ _ _⟩ ?_
  refine mb_l_cons ⟨mm_i2l _, ml_i2l _⟩ ?_
  refine mb_l_cons ⟨mm_last _, ml_last _⟩ ?_
  refine mb_l_cons ⟨mm_go _, ml_go _⟩ ?_
  refine mb_l_cons ⟨mm_ast _ _, ml_ast _ _⟩ ?_
  refine mb_l_cons ⟨mm_push _ _, ml_push _ _⟩ ?_
  refine mb_l_cons ⟨mm_iret, ml_iret⟩ ?_
  refine mb_l_cons ⟨mm_ast _ _, ml_ast _ _⟩ ?_
  refine mb_l_cons ⟨mm_push _ _, ml_push _ _⟩ ?_
  refine mb_l_cons ⟨mm_iret, ml_iret⟩ ?_
  refine mb_l_cons ⟨mm_ast _ _, ml_ast _ _⟩ ?_
  refine mb_l_cons ⟨mm_push _ _, ml_push _ _⟩ ?_
  refine mb_l_cons ⟨mm_iret, ml_iret⟩ ?_
  refine mb_l_cons ⟨mm_push _ _, ml_push _ _⟩ ?_
  refine mb_l_cons ⟨mm_iret, ml_iret⟩ ?_
  exact mb_l_nil
theorem mz_L_note : ∀ pc i, mb_look mc_L_note pc = some i → mb_Mon i ∧ mb_Le i := by
  unfold mc_L_note
  refine mb_l_cons ⟨mm_ald _ _, ml_ald _ _⟩ ?_
  refine mb_l_cons ⟨mm_push _ _, ml_push _ _⟩ ?_
  refine mb_l_cons ⟨mm_ald _ _, ml_ald _ _⟩ ?_
  refine mb_l_cons ⟨mm_ild _ _, ml_ild _ _⟩ ?_
  refine mb_l_cons ⟨mm_ild _ _, ml_ild _ _⟩ ?_
  refine mb_l_cons ⟨mm_callv _ _ _ _ _, ml_callv _ _ _ _ _⟩ ?_
  refine mb_l_cons ⟨mm_i2l _, ml_i2l _⟩ ?_
  refine mb_l_cons ⟨mm_last _, ml_last _⟩ ?_
  refine mb_l_cons ⟨mm_go _, ml_go _⟩ ?_
  refine mb_l_cons ⟨mm_ast _ _, ml_ast _ _⟩ ?_
  refine mb_l_cons ⟨mm_push _ _, ml_push _ _⟩ ?_
  refine mb_l_cons ⟨mm_iret, ml_iret⟩ ?_
  refine mb_l_cons ⟨mm_ast _ _, ml_ast _ _⟩ ?_
  refine mb_l_cons ⟨mm_push _ _, ml_push _ _⟩ ?_
  refine mb_l_cons ⟨mm_iret, ml_iret⟩ ?_
  refine mb_l_cons ⟨mm_push _ _, ml_push _ _⟩ ?_
  refine mb_l_cons ⟨mm_iret, ml_iret⟩ ?_
  exact mb_l_nil
theorem mz_L_settle : ∀ pc i, mb_look mc_L_settle pc = some i → mb_Mon i ∧ mb_Le i := by
  unfold mc_L_settle
  refine mb_l_cons ⟨mm_ald _ _, ml_ald _ _⟩ ?_
  refine mb_l_cons ⟨mm_push _ _, ml_push _ _⟩ ?_
  refine mb_l_cons ⟨mm_ald _ _, ml_ald _ _⟩ ?_
  refine mb_l_cons ⟨mm_ild _ _, ml_ild _ _⟩ ?_
  refine mb_l_cons ⟨mm_callv _ _ _ _ _, ml_callv _ _ _ _ _⟩ ?_
  refine mb_l_cons ⟨mm_i2l _, ml_i2l _⟩ ?_
  refine mb_l_cons ⟨mm_last _, ml_last _⟩ ?_
  refine mb_l_cons ⟨mm_go _, ml_go _⟩ ?_
  refine mb_l_cons ⟨mm_ast _ _, ml_ast _ _⟩ ?_
  refine mb_l_cons ⟨mm_push _ _, ml_push _ _⟩ ?_
  refine mb_l_cons ⟨mm_iret, ml_iret⟩ ?_
  refine mb_l_cons ⟨mm_ast _ _, ml_ast _ _⟩ ?_
  refine mb_l_cons ⟨mm_push _ _, ml_push _ _⟩ ?_
  refine mb_l_cons ⟨mm_iret, ml_iret⟩ ?_
  refine mb_l_cons ⟨mm_push _ _, ml_push _ _⟩ ?_
  refine mb_l_cons ⟨mm_iret, ml_iret⟩ ?_
  exact mb_l_nil
theorem mz_L_ofNote : ∀ pc i, mb_look mc_L_ofNote pc = some i → mb_Mon i ∧ mb_Le i := by
  unfold mc_L_ofNote
  refine mb_l_cons ⟨mm_ald _ _, ml_ald _ _⟩ ?_
  refine mb_l_cons ⟨mm_push _ _, ml_push _ _⟩ ?_
  refine mb_l_cons ⟨mm_ald _ _, ml_ald _ _⟩ ?_
  refine mb_l_cons ⟨mm_ild _ _, ml_ild _ _⟩ ?_
  refine mb_l_cons ⟨mm_ild _ _, ml_ild _ _⟩ ?_
  refine mb_l_cons ⟨mm_callv _ _ _ _ _, ml_callv _ _ _ _ _⟩ ?_
  refine mb_l_cons ⟨mm_i2l _, ml_i2l _⟩ ?_
  refine mb_l_cons ⟨mm_last _, ml_last _⟩ ?_
  refine mb_l_cons ⟨mm_go _, ml_go _⟩ ?_
  refine mb_l_cons ⟨mm_ast _ _, ml_ast _ _⟩ ?_
  refine mb_l_cons ⟨mm_push _ _, ml_push _ _⟩ ?_
  refine mb_l_cons ⟨mm_iret, ml_iret⟩ ?_
  refine mb_l_cons ⟨mm_push _ _, ml_push _ _⟩ ?_
  refine mb_l_cons ⟨mm_iret, ml_iret⟩ ?_
  exact mb_l_nil
theorem mz_L_render : ∀ pc i, mb_look mc_L_render pc = some i → mb_Mon i ∧ mb_Le i := by
  unfold mc_L_render
  refine mb_l_cons ⟨mm_ald _ _, ml_ald _ _⟩ ?_
  refine mb_l_cons ⟨mm_push _ _, ml_push _ _⟩ ?_
  refine mb_l_cons ⟨mm_ald _ _, ml_ald _ _⟩ ?_
  refine mb_l_cons ⟨mm_ild _ _, ml_ild _ _⟩ ?_
  refine mb_l_cons ⟨mm_callv _ _ _ _ _, ml_callv _ _ _ _ _⟩ ?_
  refine mb_l_cons ⟨mm_i2l _, ml_i2l _⟩ ?_
  refine mb_l_cons ⟨mm_last _, ml_last _⟩ ?_
  refine mb_l_cons ⟨mm_go _, ml_go _⟩ ?_
  refine mb_l_cons ⟨mm_ast _ _, ml_ast _ _⟩ ?_
  refine mb_l_cons ⟨mm_push _ _, ml_push _ _⟩ ?_
  refine mb_l_cons ⟨mm_iret, ml_iret⟩ ?_
  refine mb_l_cons ⟨mm_push _ _, ml_push _ _⟩ ?_
  refine mb_l_cons ⟨mm_iret, ml_iret⟩ ?_
  exact mb_l_nil
theorem mz_L_renderOne : ∀ pc i, mb_look mc_L_renderOne pc = some i → mb_Mon i ∧ mb_Le i := by
  unfold mc_L_renderOne
  refine mb_l_cons ⟨mm_ald _ _, ml_ald _ _⟩ ?_
  refine mb_l_cons ⟨mm_push _ _, ml_push _ _⟩ ?_
  refine mb_l_cons ⟨mm_ald _ _, ml_ald _ _⟩ ?_
  refine mb_l_cons ⟨mm_ild _ _, ml_ild _ _⟩ ?_
  refine mb_l_cons ⟨mm_ild _ _, ml_ild _ _⟩ ?_
  refine mb_l_cons ⟨mm_callv _ _ _ _ _, ml_callv _ _ _ _ _⟩ ?_
  refine mb_l_cons ⟨mm_if1 _ _ _, ml_if1 _ _ _⟩ ?_
  refine mb_l_cons ⟨mm_push _ _, ml_push _ _⟩ ?_
  refine mb_l_cons ⟨mm_go _, ml_go _⟩ ?_
  refine mb_l_cons ⟨mm_push _ _, ml_push _ _⟩ ?_
  refine mb_l_cons ⟨mm_last _, ml_last _⟩ ?_
  refine mb_l_cons ⟨mm_go _, ml_go _⟩ ?_
  refine mb_l_cons ⟨mm_ast _ _, ml_ast _ _⟩ ?_
  refine mb_l_cons ⟨mm_push _ _, ml_push _ _⟩ ?_
  refine mb_l_cons ⟨mm_iret, ml_iret⟩ ?_
  refine mb_l_cons ⟨mm_push _ _, ml_push _ _⟩ ?_
  refine mb_l_cons ⟨mm_iret, ml_iret⟩ ?_
  exact mb_l_nil
theorem mz_L_needs : ∀ pc i, mb_look mc_L_needs pc = some i → mb_Mon i ∧ mb_Le i := by
  unfold mc_L_needs
  refine mb_l_cons ⟨mm_ald _ _, ml_ald _ _⟩ ?_
  refine mb_l_cons ⟨mm_push _ _, ml_push _ _⟩ ?_
  refine mb_l_cons ⟨mm_ald _ _, ml_ald _ _⟩ ?_
  refine mb_l_cons ⟨mm_ild _ _, ml_ild _ _⟩ ?_
  refine mb_l_cons ⟨mm_callv _ _ _ _ _, ml_callv _ _ _ _ _⟩ ?_
  refine mb_l_cons ⟨mm_i2l _, ml_i2l _⟩ ?_
  refine mb_l_cons ⟨mm_last _, ml_last _⟩ ?_
  refine mb_l_cons ⟨mm_go _, ml_go _⟩ ?_
  refine mb_l_cons ⟨mm_ast _ _, ml_ast _ _⟩ ?_
  refine mb_l_cons ⟨mm_push _ _, ml_push _ _⟩ ?_
  refine mb_l_cons ⟨mm_iret, ml_iret⟩ ?_
  refine mb_l_cons ⟨mm_push _ _, ml_push _ _⟩ ?_
  refine mb_l_cons ⟨mm_iret, ml_iret⟩ ?_
  exact mb_l_nil
theorem mz_L_mixes : ∀ pc i, mb_look mc_L_mixes pc = some i → mb_Mon i ∧ mb_Le i := by
  unfold mc_L_mixes
  refine mb_l_cons ⟨mm_ald _ _, ml_ald _ _⟩ ?_
  refine mb_l_cons ⟨mm_push _ _, ml_push _ _⟩ ?_
  refine mb_l_cons ⟨mm_ald _ _, ml_ald _ _⟩ ?_
  refine mb_l_cons ⟨mm_ild _ _, ml_ild _ _⟩ ?_
  refine mb_l_cons ⟨mm_callv _ _ _ _ _, ml_callv _ _ _ _ _⟩ ?_
  refine mb_l_cons ⟨mm_i2l _, ml_i2l _⟩ ?_
  refine mb_l_cons ⟨mm_last _, ml_last _⟩ ?_
  refine mb_l_cons ⟨mm_go _, ml_go _⟩ ?_
  refine mb_l_cons ⟨mm_ast _ _, ml_ast _ _⟩ ?_
  refine mb_l_cons ⟨mm_push _ _, ml_push _ _⟩ ?_
  refine mb_l_cons ⟨mm_iret, ml_iret⟩ ?_
  refine mb_l_cons ⟨mm_push _ _, ml_push _ _⟩ ?_
  refine mb_l_cons ⟨mm_iret, ml_iret⟩ ?_
  exact mb_l_nil
theorem mz_L_ofFrame : ∀ pc i, mb_look mc_L_ofFrame pc = some i → mb_Mon i ∧ mb_Le i := by
  unfold mc_L_ofFrame
  refine mb_l_cons ⟨mm_ald _ _, ml_ald _ _⟩ ?_
  refine mb_l_cons ⟨mm_push _ _, ml_push _ _⟩ ?_
  refine mb_l_cons ⟨mm_ald _ _, ml_ald _ _⟩ ?_
  refine mb_l_cons ⟨mm_ild _ _, ml_ild _ _⟩ ?_
  refine mb_l_cons ⟨mm_ild _ _, ml_ild _ _⟩ ?_
  refine mb_l_cons ⟨mm_ild _ _, ml_ild _ _⟩ ?_
  refine mb_l_cons ⟨mm_callv _ _ _ _ _, ml_callv _ _ _ _ _⟩ ?_
  refine mb_l_cons ⟨mm_i2l _, ml_i2l _⟩ ?_
  refine mb_l_cons ⟨mm_last _, ml_last _⟩ ?_
  refine mb_l_cons ⟨mm_go _, ml_go _⟩ ?_
  refine mb_l_cons ⟨mm_ast _ _, ml_ast _ _⟩ ?_
  refine mb_l_cons ⟨mm_push _ _, ml_push _ _⟩ ?_
  refine mb_l_cons ⟨mm_iret, ml_iret⟩ ?_
  refine mb_l_cons ⟨mm_push _ _, ml_push _ _⟩ ?_
  refine mb_l_cons ⟨mm_iret, ml_iret⟩ ?_
  exact mb_l_nil
theorem mz_L_kept : ∀ pc i, mb_look mc_L_kept pc = some i → mb_Mon i ∧ mb_Le i := by
  unfold mc_L_kept
  refine mb_l_cons ⟨mm_ald _ _, ml_ald _ _⟩ ?_
  refine mb_l_cons ⟨mm_push _ _, ml_push _ _⟩ ?_
  refine mb_l_cons ⟨mm_ald _ _, ml_ald _ _⟩ ?_
  refine mb_l_cons ⟨mm_ild _ _, ml_ild _ _⟩ ?_
  refine mb_l_cons ⟨mm_ild _ _, ml_ild _ _⟩ ?_
  refine mb_l_cons ⟨mm_ild _ _, ml_ild _ _⟩ ?_
  refine mb_l_cons ⟨mm_callv _ _ _ _ _, ml_callv _ _ _ _ _⟩ ?_
  refine mb_l_cons ⟨mm_i2l _, ml_i2l _⟩ ?_
  refine mb_l_cons ⟨mm_last _, ml_last _⟩ ?_
  refine mb_l_cons ⟨mm_go _, ml_go _⟩ ?_
  refine mb_l_cons ⟨mm_ast _ _, ml_ast _ _⟩ ?_
  refine mb_l_cons ⟨mm_push _ _, ml_push _ _⟩ ?_
  refine mb_l_cons ⟨mm_iret, ml_iret⟩ ?_
  refine mb_l_cons ⟨mm_push _ _, ml_push _ _⟩ ?_
  refine mb_l_cons ⟨mm_iret, ml_iret⟩ ?_
  exact mb_l_nil
theorem mz_L_count : ∀ pc i, mb_look mc_L_count pc = some i → mb_Mon i ∧ mb_Le i := by
  unfold mc_L_count
  refine mb_l_cons ⟨mm_ald _ _, ml_ald _ _⟩ ?_
  refine mb_l_cons ⟨mm_push _ _, ml_push _ _⟩ ?_
  refine mb_l_cons ⟨mm_ald _ _, ml_ald _ _⟩ ?_
  refine mb_l_cons ⟨mm_ild _ _, ml_ild _ _⟩ ?_
  refine mb_l_cons ⟨mm_callv _ _ _ _ _, ml_callv _ _ _ _ _⟩ ?_
  refine mb_l_cons ⟨mm_i2l _, ml_i2l _⟩ ?_
  refine mb_l_cons ⟨mm_last _, ml_last _⟩ ?_
  refine mb_l_cons ⟨mm_go _, ml_go _⟩ ?_
  refine mb_l_cons ⟨mm_ast _ _, ml_ast _ _⟩ ?_
  refine mb_l_cons ⟨mm_push _ _, ml_push _ _⟩ ?_
  refine mb_l_cons ⟨mm_iret, ml_iret⟩ ?_
  refine mb_l_cons ⟨mm_push _ _, ml_push _ _⟩ ?_
  refine mb_l_cons ⟨mm_iret, ml_iret⟩ ?_
  exact mb_l_nil
theorem mz_L_law : ∀ pc i, mb_look mc_L_law pc = some i → mb_Mon i ∧ mb_Le i := by
  unfold mc_L_law
  refine mb_l_cons ⟨mm_new _ _ _, ml_new _ _ _⟩ ?_
  refine mb_l_cons ⟨mm_dup _, ml_dup _⟩ ?_
  refine mb_l_cons ⟨mm_calli _ _ _, ml_calli _ _ _⟩ ?_
  refine mb_l_cons ⟨mm_ast _ _, ml_ast _ _⟩ ?_
  refine mb_l_cons ⟨mm_new _ _ _, ml_new _ _ _⟩ ?_
  refine mb_l_cons ⟨mm_dup _, ml_dup _⟩ ?_
  refine mb_l_cons ⟨mm_calli _ _ _, ml_calli _ _ _⟩ ?_
  refine mb_l_cons ⟨mm_ast _ _, ml_ast _ _⟩ ?_
  refine mb_l_cons ⟨mm_push _ _, ml_push _ _⟩ ?_
  refine mb_l_cons ⟨mm_newj _, ml_newj _⟩ ?_
  refine mb_l_cons ⟨mm_ast _ _, ml_ast _ _⟩ ?_
  refine mb_l_cons ⟨mm_push _ _, ml_push _ _⟩ ?_
  refine mb_l_cons ⟨mm_ist _ _, ml_ist _ _⟩ ?_
  refine mb_l_cons ⟨mm_ild _ _, ml_ild _ _⟩ ?_
  refine mb_l_cons ⟨mm_ald _ _, ml_ald _ _⟩ ?_
  refine mb_l_cons ⟨mm_alen _, ml_alen _⟩ ?_
  refine mb_l_cons ⟨mm_push _ _, ml_push _ _⟩ ?_
  refine mb_l_cons ⟨mm_isub _, ml_isub _⟩ ?_
  refine mb_l_cons ⟨mm_if2 _ _ _, ml_if2 _ _ _⟩ ?_
  refine mb_l_cons ⟨mm_ald _ _, ml_ald _ _⟩ ?_
  refine mb_l_cons ⟨mm_ild _ _, ml_ild _ _⟩ ?_
  refine mb_l_cons ⟨mm_iald _, ml_iald _⟩ ?_
  refine mb_l_cons ⟨mm_push _ _, ml_push _ _⟩ ?_
  refine mb_l_cons ⟨mm_iand _, ml_iand _⟩ ?_
  refine mb_l_cons ⟨mm_tsw _ _, ml_tsw _ _⟩ ?_
  refine mb_l_cons ⟨mm_ald _ _, ml_ald _ _⟩ ?_
  refine mb_l_cons ⟨mm_ald _ _, ml_ald _ _⟩ ?_
  refine mb_l_cons ⟨mm_calls _ _ _, ml_calls _ _ _⟩ ?_
  refine mb_l_cons ⟨mm_ist _ _, ml_ist _ _⟩ ?_
  refine mb_l_cons ⟨mm_ald _ _, ml_ald _ _⟩ ?_
  refine mb_l_cons ⟨mm_callv _ _ _ _ _, ml_callv _ _ _ _ _⟩ ?_
  refine mb_l_cons ⟨mm_ist _ _, ml_ist _ _⟩ ?_
  refine mb_l_cons ⟨mm_ald _ _, ml_ald _ _⟩ ?_
  refine mb_l_cons ⟨mm_callv _ _ _ _ _, ml_callv _ _ _ _ _⟩ ?_
  refine mb_l_cons ⟨mm_ild _ _, ml_ild _ _⟩ ?_
  refine mb_l_cons ⟨mm_if2 _ _ _, ml_if2 _ _ _⟩ ?_
  refine mb_l_cons ⟨mm_push _ _, ml_push _ _⟩ ?_
  refine mb_l_cons ⟨mm_zret, ml_zret⟩ ?_
  refine mb_l_cons ⟨mm_ild _ _, ml_ild _ _⟩ ?_
  refine mb_l_cons ⟨mm_if1 _ _ _, ml_if1 _ _ _⟩ ?_
  refine mb_l_cons ⟨mm_ald _ _, ml_ald _ _⟩ ?_
  refine mb_l_cons ⟨mm_push _ _, ml_push _ _⟩ ?_
  refine mb_l_cons ⟨mm_lald _, ml_lald _⟩ ?_
  refine mb_l_cons ⟨mm_ild _ _, ml_ild _ _⟩ ?_
  refine mb_l_cons ⟨mm_i2l _, ml_i2l _⟩ ?_
  refine mb_l_cons ⟨mm_lcmp _, ml_lcmp _⟩ ?_
  refine mb_l_cons ⟨mm_if1 _ _ _, ml_if1 _ _ _⟩ ?_
  refine mb_l_cons ⟨mm_push _ _, ml_push _ _⟩ ?_
  refine mb_l_cons ⟨mm_zret, ml_zret⟩ ?_
  refine mb_l_cons ⟨mm_go _, ml_go _⟩ ?_
  refine mb_l_cons ⟨mm_ald _ _, ml_ald _ _⟩ ?_
  refine mb_l_cons ⟨mm_ald _ _, ml_ald _ _⟩ ?_
  refine mb_l_cons ⟨mm_ild _ _, ml_ild _ _⟩ ?_
  refine mb_l_cons ⟨mm_push _ _, ml_push _ _⟩ ?_
  refine mb_l_cons ⟨mm_iadd _, ml_iadd _⟩ ?_
  refine mb_l_cons ⟨mm_iald _, ml_iald _⟩ ?_
  refine mb_l_cons ⟨mm_ald _ _, ml_ald _ _⟩ ?_
  refine mb_l_cons ⟨mm_ild _ _, ml_ild _ _⟩ ?_
  refine mb_l_cons ⟨mm_push _ _, ml_push _ _⟩ ?_
  refine mb_l_cons ⟨mm_iadd _, ml_iadd _⟩ ?_
  refine mb_l_cons ⟨mm_iald _, ml_iald _⟩ ?_
  refine mb_l_cons ⟨mm_ald _ _, ml_ald _ _⟩ ?_
  refine mb_l_cons ⟨mm_calls _ _ _, ml_calls _ _ _⟩ ?_
  refine mb_l_cons ⟨mm_ist _ _, ml_ist _ _⟩ ?_
  refine mb_l_cons ⟨mm_ald _ _, ml_ald _ _⟩ ?_
  refine mb_l_cons ⟨mm_ald _ _, ml_ald _ _⟩ ?_
  refine mb_l_cons ⟨mm_ild _ _, ml_ild _ _⟩ ?_
  refine mb_l_cons ⟨mm_push _ _, ml_push _ _⟩ ?_
  refine mb_l_cons ⟨mm_iadd _, ml_iadd _⟩ ?_
  refine mb_l_cons ⟨mm_iald _, ml_iald _⟩ ?_
  refine mb_l_cons ⟨mm_ald _ _, ml_ald _ _⟩ ?_
  refine mb_l_cons ⟨mm_ild _ _, ml_ild _ _⟩ ?_
  refine mb_l_cons ⟨mm_push _ _, ml_push _ _⟩ ?_
  refine mb_l_cons ⟨mm_iadd _, ml_iadd _⟩ ?_
  refine mb_l_cons ⟨mm_iald _, ml_iald _⟩ ?_
  refine mb_l_cons ⟨mm_callv _ _ _ _ _, ml_callv _ _ _ _ _⟩ ?_
  refine mb_l_cons ⟨mm_ist _ _, ml_ist _ _⟩ ?_
  refine mb_l_cons ⟨mm_ald _ _, ml_ald _ _⟩ ?_
  refine mb_l_cons ⟨mm_callv _ _ _ _ _, ml_callv _ _ _ _ _⟩ ?_
  refine mb_l_cons ⟨mm_ild _ _, ml_ild _ _⟩ ?_
  refine mb_l_cons ⟨mm_if2 _ _ _, ml_if2 _ _ _⟩ ?_
  refine mb_l_cons ⟨mm_push _ _, ml_push _ _⟩ ?_
  refine mb_l_cons ⟨mm_zret, ml_zret⟩ ?_
  refine mb_l_cons ⟨mm_ild _ _, ml_ild _ _⟩ ?_
  refine mb_l_cons ⟨mm_if1 _ _ _, ml_if1 _ _ _⟩ ?_
  refine mb_l_cons ⟨mm_ald _ _, ml_ald _ _⟩ ?_
  refine mb_l_cons ⟨mm_push _ _, ml_push _ _⟩ ?_
  refine mb_l_cons ⟨mm_lald _, ml_lald _⟩ ?_
  refine mb_l_cons ⟨mm_ild _ _, ml_ild _ _⟩ ?_
  refine mb_l_cons ⟨mm_i2l _, ml_i2l _⟩ ?_
  refine mb_l_cons ⟨mm_lcmp _, ml_lcmp _⟩ ?_
  refine mb_l_cons ⟨mm_if1 _ _ _, ml_if1 _ _ _⟩ ?_
  refine mb_l_cons ⟨mm_push _ _, ml_push _ _⟩ ?_
  refine mb_l_cons ⟨mm_zret, ml_zret⟩ ?_
  refine mb_l_cons ⟨mm_go _, ml_go _⟩ ?_
  refine mb_l_cons ⟨mm_ald _ _, ml_ald _ _⟩ ?_
  refine mb_l_cons ⟨mm_ald _ _, ml_ald _ _⟩ ?_
  refine mb_l_cons ⟨mm_ild _ _, ml_ild _ _⟩ ?_
  refine mb_l_cons ⟨mm_push _ _, ml_push _ _⟩ ?_
  refine mb_l_cons ⟨mm_iadd _, ml_iadd _⟩ ?_
  refine mb_l_cons ⟨mm_iald _, ml_iald _⟩ ?_
  refine mb_l_cons ⟨mm_ald _ _, ml_ald _ _⟩ ?_
  refine mb_l_cons ⟨mm_ild _ _, ml_ild _ _⟩ ?_
  refine mb_l_cons ⟨mm_push _ _, ml_push _ _⟩ ?_
  refine mb_l_cons ⟨mm_iadd _, ml_iadd _⟩ ?_
  refine mb_l_cons ⟨mm_iald _, ml_iald _⟩ ?_
  refine mb_l_cons ⟨mm_ald _ _, ml_ald _ _⟩ ?_
  refine mb_l_cons ⟨mm_ild _ _, ml_ild _ _⟩ ?_
  refine mb_l_cons ⟨mm_push _ _, ml_push _ _⟩ ?_
  refine mb_l_cons ⟨mm_iadd _, ml_iadd _⟩ ?_
  refine mb_l_cons ⟨mm_iald _, ml_iald _⟩ ?_
  refine mb_l_cons ⟨mm_ald _ _, ml_ald _ _⟩ ?_
  refine mb_l_cons ⟨mm_ild _ _, ml_ild _ _⟩ ?_
  refine mb_l_cons ⟨mm_push _ _, ml_push _ _⟩ ?_
  refine mb_l_cons ⟨mm_iadd _, ml_iadd _⟩ ?_
  refine mb_l_cons ⟨mm_iald _, ml_iald _⟩ ?_
  refine mb_l_cons ⟨mm_ald _ _, ml_ald _ _⟩ ?_
  refine mb_l_cons ⟨mm_ild _ _, ml_ild _ _⟩ ?_
  refine mb_l_cons ⟨mm_push _ _, ml_push _ _⟩ ?_
  refine mb_l_cons ⟨mm_iadd _, ml_iadd _⟩ ?_
  refine mb_l_cons ⟨mm_iald _, ml_iald _⟩ ?_
  refine mb_l_cons ⟨mm_ald _ _, ml_ald _ _⟩ ?_
  refine mb_l_cons ⟨mm_calls _ _ _, ml_calls _ _ _⟩ ?_
  refine mb_l_cons ⟨mm_ist _ _, ml_ist _ _⟩ ?_
  refine mb_l_cons ⟨mm_ald _ _, ml_ald _ _⟩ ?_
  refine mb_l_cons ⟨mm_ald _ _, ml_ald _ _⟩ ?_
  refine mb_l_cons ⟨mm_ild _ _, ml_ild _ _⟩ ?_
  refine mb_l_cons ⟨mm_push _ _, ml_push _ _⟩ ?_
  refine mb_l_cons ⟨mm_iadd _, ml_iadd _⟩ ?_
  refine mb_l_cons ⟨mm_iald _, ml_iald _⟩ ?_
  refine mb_l_cons ⟨mm_ald _ _, ml_ald _ _⟩ ?_
  refine mb_l_cons ⟨mm_ild _ _, ml_ild _ _⟩ ?_
  refine mb_l_cons ⟨mm_push _ _, ml_push _ _⟩ ?_
  refine mb_l_cons ⟨mm_iadd _, ml_iadd _⟩ ?_
  refine mb_l_cons ⟨mm_iald _, ml_iald _⟩ ?_
  refine mb_l_cons ⟨mm_ald _ _, ml_ald _ _⟩ ?_
  refine mb_l_cons ⟨mm_ild _ _, ml_ild _ _⟩ ?_
  refine mb_l_cons ⟨mm_push _ _, ml_push _ _⟩ ?_
  refine mb_l_cons ⟨mm_iadd _, ml_iadd _⟩ ?_
  refine mb_l_cons ⟨mm_iald _, ml_iald _⟩ ?_
  refine mb_l_cons ⟨mm_ald _ _, ml_ald _ _⟩ ?_
  refine mb_l_cons ⟨mm_ild _ _, ml_ild _ _⟩ ?_
  refine mb_l_cons ⟨mm_push _ _, ml_push _ _⟩ ?_
  refine mb_l_cons ⟨mm_iadd _, ml_iadd _⟩ ?_
  refine mb_l_cons ⟨mm_iald _, ml_iald _⟩ ?_
  refine mb_l_cons ⟨mm_ald _ _, ml_ald _ _⟩ ?_
  refine mb_l_cons ⟨mm_ild _ _, ml_ild _ _⟩ ?_
  refine mb_l_cons ⟨mm_push _ _, ml_push _ _⟩ ?_
  refine mb_l_cons ⟨mm_iadd _, ml_iadd _⟩ ?_
  refine mb_l_cons ⟨mm_iald _, ml_iald _⟩ ?_
  refine mb_l_cons ⟨mm_callv _ _ _ _ _, ml_callv _ _ _ _ _⟩ ?_
  refine mb_l_cons ⟨mm_ist _ _, ml_ist _ _⟩ ?_
  refine mb_l_cons ⟨mm_ald _ _, ml_ald _ _⟩ ?_
  refine mb_l_cons ⟨mm_callv _ _ _ _ _, ml_callv _ _ _ _ _⟩ ?_
  refine mb_l_cons ⟨mm_ild _ _, ml_ild _ _⟩ ?_
  refine mb_l_cons ⟨mm_if2 _ _ _, ml_if2 _ _ _⟩ ?_
  refine mb_l_cons ⟨mm_push _ _, ml_push _ _⟩ ?_
  refine mb_l_cons ⟨mm_zret, ml_zret⟩ ?_
  refine mb_l_cons ⟨mm_ild _ _, ml_ild _ _⟩ ?_
  refine mb_l_cons ⟨mm_if1 _ _ _, ml_if1 _ _ _⟩ ?_
  refine mb_l_cons ⟨mm_ald _ _, ml_ald _ _⟩ ?_
  refine mb_l_cons ⟨mm_push _ _, ml_push _ _⟩ ?_
  refine mb_l_cons ⟨mm_lald _, ml_lald _⟩ ?_
  refine mb_l_cons ⟨mm_ild _ _, ml_ild _ _⟩ ?_
  refine mb_l_cons ⟨mm_i2l _, ml_i2l _⟩ ?_
  refine mb_l_cons ⟨mm_lcmp _, ml_lcmp _⟩ ?_
  refine mb_l_cons ⟨mm_if1 _ _ _, ml_if1 _ _ _⟩ ?_
  refine mb_l_cons ⟨mm_push _ _, ml_push _ _⟩ ?_
  refine mb_l_cons ⟨mm_zret, ml_zret⟩ ?_
  refine mb_l_cons ⟨mm_go _, ml_go _⟩ ?_
  refine mb_l_cons ⟨mm_ald _ _, ml_ald _ _⟩ ?_
  refine mb_l_cons ⟨mm_ald _ _, ml_ald _ _⟩ ?_
  refine mb_l_cons ⟨mm_ild _ _, ml_ild _ _⟩ ?_
  refine mb_l_cons ⟨mm_push _ _, ml_push _ _⟩ ?_
  refine mb_l_cons ⟨mm_iadd _, ml_iadd _⟩ ?_
  refine mb_l_cons ⟨mm_iald _, ml_iald _⟩ ?_
  refine mb_l_cons ⟨mm_ald _ _, ml_ald _ _⟩ ?_
  refine mb_l_cons ⟨mm_ild _ _, ml_ild _ _⟩ ?_
  refine mb_l_cons ⟨mm_push _ _, ml_push _ _⟩ ?_
  refine mb_l_cons ⟨mm_iadd _, ml_iadd _⟩ ?_
  refine mb_l_cons ⟨mm_iald _, ml_iald _⟩ ?_
  refine mb_l_cons ⟨mm_ald _ _, ml_ald _ _⟩ ?_
  refine mb_l_cons ⟨mm_ild _ _, ml_ild _ _⟩ ?_
  refine mb_l_cons ⟨mm_push _ _, ml_push _ _⟩ ?_
  refine mb_l_cons ⟨mm_iadd _, ml_iadd _⟩ ?_
  refine mb_l_cons ⟨mm_iald _, ml_iald _⟩ ?_
  refine mb_l_cons ⟨mm_ald _ _, ml_ald _ _⟩ ?_
  refine mb_l_cons ⟨mm_calls _ _ _, ml_calls _ _ _⟩ ?_
  refine mb_l_cons ⟨mm_ist _ _, ml_ist _ _⟩ ?_
  refine mb_l_cons ⟨mm_ald _ _, ml_ald _ _⟩ ?_
  refine mb_l_cons ⟨mm_ald _ _, ml_ald _ _⟩ ?_
  refine mb_l_cons ⟨mm_ild _ _, ml_ild _ _⟩ ?_
  refine mb_l_cons ⟨mm_push _ _, ml_push _ _⟩ ?_
  refine mb_l_cons ⟨mm_iadd _, ml_iadd _⟩ ?_
  refine mb_l_cons ⟨mm_iald _, ml_iald _⟩ ?_
  refine mb_l_cons ⟨mm_ald _ _, ml_ald _ _⟩ ?_
  refine mb_l_cons ⟨mm_ild _ _, ml_ild _ _⟩ ?_
  refine mb_l_cons ⟨mm_push _ _, ml_push _ _⟩ ?_
  refine mb_l_cons ⟨mm_iadd _, ml_iadd _⟩ ?_
  refine mb_l_cons ⟨mm_iald _, ml_iald _⟩ ?_
  refine mb_l_cons ⟨mm_ald _ _, ml_ald _ _⟩ ?_
  refine mb_l_cons ⟨mm_ild _ _, ml_ild _ _⟩ ?_
  refine mb_l_cons ⟨mm_push _ _, ml_push _ _⟩ ?_
  refine mb_l_cons ⟨mm_iadd _, ml_iadd _⟩ ?_
  refine mb_l_cons ⟨mm_iald _, ml_iald _⟩ ?_
  refine mb_l_cons ⟨mm_callv _ _ _ _ _, ml_callv _ _ _ _ _⟩ ?_
  refine mb_l_cons ⟨mm_ist _ _, ml_ist _ _⟩ ?_
  refine mb_l_cons ⟨mm_ald _ _, ml_ald _ _⟩ ?_
  refine mb_l_cons ⟨mm_callv _ _ _ _ _, ml_callv _ _ _ _ _⟩ ?_
  refine mb_l_cons ⟨mm_ild _ _, ml_ild _ _⟩ ?_
  refine mb_l_cons ⟨mm_if2 _ _ _, ml_if2 _ _ _⟩ ?_
  refine mb_l_cons ⟨mm_push _ _, ml_push _ _⟩ ?_
  refine mb_l_cons ⟨mm_zret, ml_zret⟩ ?_
  refine mb_l_cons ⟨mm_ild _ _, ml_ild _ _⟩ ?_
  refine mb_l_cons ⟨mm_if1 _ _ _, ml_if1 _ _ _⟩ ?_
  refine mb_l_cons ⟨mm_ald _ _, ml_ald _ _⟩ ?_
  refine mb_l_cons ⟨mm_push _ _, ml_push _ _⟩ ?_
  refine mb_l_cons ⟨mm_lald _, ml_lald _⟩ ?_
  refine mb_l_cons ⟨mm_ild _ _, ml_ild _ _⟩ ?_
  refine mb_l_cons ⟨mm_if1 _ _ _, ml_if1 _ _ _⟩ ?_
  refine mb_l_cons ⟨mm_push _ _, ml_push _ _⟩ ?_
  refine mb_l_cons ⟨mm_go _, ml_go _⟩ ?_
  refine mb_l_cons ⟨mm_push _ _, ml_push _ _⟩ ?_
  refine mb_l_cons ⟨mm_lcmp _, ml_lcmp _⟩ ?_
  refine mb_l_cons ⟨mm_if1 _ _ _, ml_if1 _ _ _⟩ ?_
  refine mb_l_cons ⟨mm_push _ _, ml_push _ _⟩ ?_
  refine mb_l_cons ⟨mm_zret, ml_zret⟩ ?_
  refine mb_l_cons ⟨mm_go _, ml_go _⟩ ?_
  refine mb_l_cons ⟨mm_ald _ _, ml_ald _ _⟩ ?_
  refine mb_l_cons ⟨mm_ald _ _, ml_ald _ _⟩ ?_
  refine mb_l_cons ⟨mm_ild _ _, ml_ild _ _⟩ ?_
  refine mb_l_cons ⟨mm_push _ _, ml_push _ _⟩ ?_
  refine mb_l_cons ⟨mm_iadd _, ml_iadd _⟩ ?_
  refine mb_l_cons ⟨mm_iald _, ml_iald _⟩ ?_
  refine mb_l_cons ⟨mm_ald _ _, ml_ald _ _⟩ ?_
  refine mb_l_cons ⟨mm_calls _ _ _, ml_calls _ _ _⟩ ?_
  refine mb_l_cons ⟨mm_ist _ _, ml_ist _ _⟩ ?_
  refine mb_l_cons ⟨mm_ald _ _, ml_ald _ _⟩ ?_
  refine mb_l_cons ⟨mm_ald _ _, ml_ald _ _⟩ ?_
  refine mb_l_cons ⟨mm_ild _ _, ml_ild _ _⟩ ?_
  refine mb_l_cons ⟨mm_push _ _, ml_push _ _⟩ ?_
  refine mb_l_cons ⟨mm_iadd _, ml_iadd _⟩ ?_
  refine mb_l_cons ⟨mm_iald _, ml_iald _⟩ ?_
  refine mb_l_cons ⟨mm_callv _ _ _ _ _, ml_callv _ _ _ _ _⟩ ?_
  refine mb_l_cons ⟨mm_ist _ _, ml_ist _ _⟩ ?_
  refine mb_l_cons ⟨mm_ald _ _, ml_ald _ _⟩ ?_
  refine mb_l_cons ⟨mm_callv _ _ _ _ _, ml_callv _ _ _ _ _⟩ ?_
  refine mb_l_cons ⟨mm_ild _ _, ml_ild _ _⟩ ?_
  refine mb_l_cons ⟨mm_if2 _ _ _, ml_if2 _ _ _⟩ ?_
  refine mb_l_cons ⟨mm_push _ _, ml_push _ _⟩ ?_
  refine mb_l_cons ⟨mm_zret, ml_zret⟩ ?_
  refine mb_l_cons ⟨mm_ild _ _, ml_ild _ _⟩ ?_
  refine mb_l_cons ⟨mm_if1 _ _ _, ml_if1 _ _ _⟩ ?_
  refine mb_l_cons ⟨mm_ald _ _, ml_ald _ _⟩ ?_
  refine mb_l_cons ⟨mm_push _ _, ml_push _ _⟩ ?_
  refine mb_l_cons ⟨mm_lald _, ml_lald _⟩ ?_
  refine mb_l_cons ⟨mm_ild _ _, ml_ild _ _⟩ ?_
  refine mb_l_cons ⟨mm_i2l _, ml_i2l _⟩ ?_
  refine mb_l_cons ⟨mm_lcmp _, ml_lcmp _⟩ ?_
  refine mb_l_cons ⟨mm_if1 _ _ _, ml_if1 _ _ _⟩ ?_
  refine mb_l_cons ⟨mm_push _ _, ml_push _ _⟩ ?_
  refine mb_l_cons ⟨mm_zret, ml_zret⟩ ?_
  refine mb_l_cons ⟨mm_go _, ml_go _⟩ ?_
  refine mb_l_cons ⟨mm_ald _ _, ml_ald _ _⟩ ?_
  refine mb_l_cons ⟨mm_ald _ _, ml_ald _ _⟩ ?_
  refine mb_l_cons ⟨mm_ild _ _, ml_ild _ _⟩ ?_
  refine mb_l_cons ⟨mm_push _ _, ml_push _ _⟩ ?_
  refine mb_l_cons ⟨mm_iadd _, ml_iadd _⟩ ?_
  refine mb_l_cons ⟨mm_iald _, ml_iald _⟩ ?_
  refine mb_l_cons ⟨mm_ald _ _, ml_ald _ _⟩ ?_
  refine mb_l_cons ⟨mm_ild _ _, ml_ild _ _⟩ ?_
  refine mb_l_cons ⟨mm_push _ _, ml_push _ _⟩ ?_
  refine mb_l_cons ⟨mm_iadd _, ml_iadd _⟩ ?_
  refine mb_l_cons ⟨mm_iald _, ml_iald _⟩ ?_
  refine mb_l_cons ⟨mm_ald _ _, ml_ald _ _⟩ ?_
  refine mb_l_cons ⟨mm_ild _ _, ml_ild _ _⟩ ?_
  refine mb_l_cons ⟨mm_push _ _, ml_push _ _⟩ ?_
  refine mb_l_cons ⟨mm_iadd _, ml_iadd _⟩ ?_
  refine mb_l_cons ⟨mm_iald _, ml_iald _⟩ ?_
  refine mb_l_cons ⟨mm_ald _ _, ml_ald _ _⟩ ?_
  refine mb_l_cons ⟨mm_ild _ _, ml_ild _ _⟩ ?_
  refine mb_l_cons ⟨mm_push _ _, ml_push _ _⟩ ?_
  refine mb_l_cons ⟨mm_iadd _, ml_iadd _⟩ ?_
  refine mb_l_cons ⟨mm_iald _, ml_iald _⟩ ?_
  refine mb_l_cons ⟨mm_ald _ _, ml_ald _ _⟩ ?_
  refine mb_l_cons ⟨mm_calls _ _ _, ml_calls _ _ _⟩ ?_
  refine mb_l_cons ⟨mm_ist _ _, ml_ist _ _⟩ ?_
  refine mb_l_cons ⟨mm_ald _ _, ml_ald _ _⟩ ?_
  refine mb_l_cons ⟨mm_ald _ _, ml_ald _ _⟩ ?_
  refine mb_l_cons ⟨mm_ild _ _, ml_ild _ _⟩ ?_
  refine mb_l_cons ⟨mm_push _ _, ml_push _ _⟩ ?_
  refine mb_l_cons ⟨mm_iadd _, ml_iadd _⟩ ?_
  refine mb_l_cons ⟨mm_iald _, ml_iald _⟩ ?_
  refine mb_l_cons ⟨mm_ald _ _, ml_ald _ _⟩ ?_
  refine mb_l_cons ⟨mm_ild _ _, ml_ild _ _⟩ ?_
  refine mb_l_cons ⟨mm_push _ _, ml_push _ _⟩ ?_
  refine mb_l_cons ⟨mm_iadd _, ml_iadd _⟩ ?_
  refine mb_l_cons ⟨mm_iald _, ml_iald _⟩ ?_
  refine mb_l_cons ⟨mm_ald _ _, ml_ald _ _⟩ ?_
  refine mb_l_cons ⟨mm_ild _ _, ml_ild _ _⟩ ?_
  refine mb_l_cons ⟨mm_push _ _, ml_push _ _⟩ ?_
  refine mb_l_cons ⟨mm_iadd _, ml_iadd _⟩ ?_
  refine mb_l_cons ⟨mm_iald _, ml_iald _⟩ ?_
  refine mb_l_cons ⟨mm_ald _ _, ml_ald _ _⟩ ?_
  refine mb_l_cons ⟨mm_ild _ _, ml_ild _ _⟩ ?_
  refine mb_l_cons ⟨mm_push _ _, ml_push _ _⟩ ?_
  refine mb_l_cons ⟨mm_iadd _, ml_iadd _⟩ ?_
  refine mb_l_cons ⟨mm_iald _, ml_iald _⟩ ?_
  refine mb_l_cons ⟨mm_callv _ _ _ _ _, ml_callv _ _ _ _ _⟩ ?_
  refine mb_l_cons ⟨mm_ist _ _, ml_ist _ _⟩ ?_
  refine mb_l_cons ⟨mm_ald _ _, ml_ald _ _⟩ ?_
  refine mb_l_cons ⟨mm_callv _ _ _ _ _, ml_callv _ _ _ _ _⟩ ?_
  refine mb_l_cons ⟨mm_ild _ _, ml_ild _ _⟩ ?_
  refine mb_l_cons ⟨mm_if2 _ _ _, ml_if2 _ _ _⟩ ?_
  refine mb_l_cons ⟨mm_push _ _, ml_push _ _⟩ ?_
  refine mb_l_cons ⟨mm_zret, ml_zret⟩ ?_
  refine mb_l_cons ⟨mm_ild _ _, ml_ild _ _⟩ ?_
  refine mb_l_cons ⟨mm_if1 _ _ _, ml_if1 _ _ _⟩ ?_
  refine mb_l_cons ⟨mm_ald _ _, ml_ald _ _⟩ ?_
  refine mb_l_cons ⟨mm_push _ _, ml_push _ _⟩ ?_
  refine mb_l_cons ⟨mm_lald _, ml_lald _⟩ ?_
  refine mb_l_cons ⟨mm_ild _ _, ml_ild _ _⟩ ?_
  refine mb_l_cons ⟨mm_i2l _, ml_i2l _⟩ ?_
  refine mb_l_cons ⟨mm_lcmp _, ml_lcmp _⟩ ?_
  refine mb_l_cons ⟨mm_if1 _ _ _, ml_if1 _ _ _⟩ ?_
  refine mb_l_cons ⟨mm_push _ _, ml_push _ _⟩ ?_
  refine mb_l_cons ⟨mm_zret, ml_zret⟩ ?_
  refine mb_l_cons ⟨mm_go _, ml_go _⟩ ?_
  refine mb_l_cons ⟨mm_ald _ _, ml_ald _ _⟩ ?_
  refine mb_l_cons ⟨mm_ald _ _, ml_ald _ _⟩ ?_
  refine mb_l_cons ⟨mm_ild _ _, ml_ild _ _⟩ ?_
  refine mb_l_cons ⟨mm_push _ _, ml_push _ _⟩ ?_
  refine mb_l_cons ⟨mm_iadd _, ml_iadd _⟩ ?_
  refine mb_l_cons ⟨mm_iald _, ml_iald _⟩ ?_
  refine mb_l_cons ⟨mm_ald _ _, ml_ald _ _⟩ ?_
  refine mb_l_cons ⟨mm_ild _ _, ml_ild _ _⟩ ?_
  refine mb_l_cons ⟨mm_push _ _, ml_push _ _⟩ ?_
  refine mb_l_cons ⟨mm_iadd _, ml_iadd _⟩ ?_
  refine mb_l_cons ⟨mm_iald _, ml_iald _⟩ ?_
  refine mb_l_cons ⟨mm_ald _ _, ml_ald _ _⟩ ?_
  refine mb_l_cons ⟨mm_ild _ _, ml_ild _ _⟩ ?_
  refine mb_l_cons ⟨mm_push _ _, ml_push _ _⟩ ?_
  refine mb_l_cons ⟨mm_iadd _, ml_iadd _⟩ ?_
  refine mb_l_cons ⟨mm_iald _, ml_iald _⟩ ?_
  refine mb_l_cons ⟨mm_ald _ _, ml_ald _ _⟩ ?_
  refine mb_l_cons ⟨mm_ild _ _, ml_ild _ _⟩ ?_
  refine mb_l_cons ⟨mm_push _ _, ml_push _ _⟩ ?_
  refine mb_l_cons ⟨mm_iadd _, ml_iadd _⟩ ?_
  refine mb_l_cons ⟨mm_iald _, ml_iald _⟩ ?_
  refine mb_l_cons ⟨mm_ald _ _, ml_ald _ _⟩ ?_
  refine mb_l_cons ⟨mm_calls _ _ _, ml_calls _ _ _⟩ ?_
  refine mb_l_cons ⟨mm_ist _ _, ml_ist _ _⟩ ?_
  refine mb_l_cons ⟨mm_ald _ _, ml_ald _ _⟩ ?_
  refine mb_l_cons ⟨mm_ald _ _, ml_ald _ _⟩ ?_
  refine mb_l_cons ⟨mm_ild _ _, ml_ild _ _⟩ ?_
  refine mb_l_cons ⟨mm_push _ _, ml_push _ _⟩ ?_
  refine mb_l_cons ⟨mm_iadd _, ml_iadd _⟩ ?_
  refine mb_l_cons ⟨mm_iald _, ml_iald _⟩ ?_
  refine mb_l_cons ⟨mm_ald _ _, ml_ald _ _⟩ ?_
  refine mb_l_cons ⟨mm_ild _ _, ml_ild _ _⟩ ?_
  refine mb_l_cons ⟨mm_push _ _, ml_push _ _⟩ ?_
  refine mb_l_cons ⟨mm_iadd _, ml_iadd _⟩ ?_
  refine mb_l_cons ⟨mm_iald _, ml_iald _⟩ ?_
  refine mb_l_cons ⟨mm_ald _ _, ml_ald _ _⟩ ?_
  refine mb_l_cons ⟨mm_ild _ _, ml_ild _ _⟩ ?_
  refine mb_l_cons ⟨mm_push _ _, ml_push _ _⟩ ?_
  refine mb_l_cons ⟨mm_iadd _, ml_iadd _⟩ ?_
  refine mb_l_cons ⟨mm_iald _, ml_iald _⟩ ?_
  refine mb_l_cons ⟨mm_ald _ _, ml_ald _ _⟩ ?_
  refine mb_l_cons ⟨mm_ild _ _, ml_ild _ _⟩ ?_
  refine mb_l_cons ⟨mm_push _ _, ml_push _ _⟩ ?_
  refine mb_l_cons ⟨mm_iadd _, ml_iadd _⟩ ?_
  refine mb_l_cons ⟨mm_iald _, ml_iald _⟩ ?_
  refine mb_l_cons ⟨mm_callv _ _ _ _ _, ml_callv _ _ _ _ _⟩ ?_
  refine mb_l_cons ⟨mm_ist _ _, ml_ist _ _⟩ ?_
  refine mb_l_cons ⟨mm_ald _ _, ml_ald _ _⟩ ?_
  refine mb_l_cons ⟨mm_callv _ _ _ _ _, ml_callv _ _ _ _ _⟩ ?_
  refine mb_l_cons ⟨mm_ild _ _, ml_ild _ _⟩ ?_
  refine mb_l_cons ⟨mm_if2 _ _ _, ml_if2 _ _ _⟩ ?_
  refine mb_l_cons ⟨mm_push _ _, ml_push _ _⟩ ?_
  refine mb_l_cons ⟨mm_zret, ml_zret⟩ ?_
  refine mb_l_cons ⟨mm_ild _ _, ml_ild _ _⟩ ?_
  refine mb_l_cons ⟨mm_if1 _ _ _, ml_if1 _ _ _⟩ ?_
  refine mb_l_cons ⟨mm_ald _ _, ml_ald _ _⟩ ?_
  refine mb_l_cons ⟨mm_push _ _, ml_push _ _⟩ ?_
  refine mb_l_cons ⟨mm_lald _, ml_lald _⟩ ?_
  refine mb_l_cons ⟨mm_ild _ _, ml_ild _ _⟩ ?_
  refine mb_l_cons ⟨mm_i2l _, ml_i2l _⟩ ?_
  refine mb_l_cons ⟨mm_lcmp _, ml_lcmp _⟩ ?_
  refine mb_l_cons ⟨mm_if1 _ _ _, ml_if1 _ _ _⟩ ?_
  refine mb_l_cons ⟨mm_push _ _, ml_push _ _⟩ ?_
  refine mb_l_cons ⟨mm_zret, ml_zret⟩ ?_
  refine mb_l_cons ⟨mm_go _, ml_go _⟩ ?_
  refine mb_l_cons ⟨mm_ald _ _, ml_ald _ _⟩ ?_
  refine mb_l_cons ⟨mm_ald _ _, ml_ald _ _⟩ ?_
  refine mb_l_cons ⟨mm_ild _ _, ml_ild _ _⟩ ?_
  refine mb_l_cons ⟨mm_push _ _, ml_push _ _⟩ ?_
  refine mb_l_cons ⟨mm_iadd _, ml_iadd _⟩ ?_
  refine mb_l_cons ⟨mm_iald _, ml_iald _⟩ ?_
  refine mb_l_cons ⟨mm_ald _ _, ml_ald _ _⟩ ?_
  refine mb_l_cons ⟨mm_ild _ _, ml_ild _ _⟩ ?_
  refine mb_l_cons ⟨mm_push _ _, ml_push _ _⟩ ?_
  refine mb_l_cons ⟨mm_iadd _, ml_iadd _⟩ ?_
  refine mb_l_cons ⟨mm_iald _, ml_iald _⟩ ?_
  refine mb_l_cons ⟨mm_ald _ _, ml_ald _ _⟩ ?_
  refine mb_l_cons ⟨mm_calls _ _ _, ml_calls _ _ _⟩ ?_
  refine mb_l_cons ⟨mm_ist _ _, ml_ist _ _⟩ ?_
  refine mb_l_cons ⟨mm_ald _ _, ml_ald _ _⟩ ?_
  refine mb_l_cons ⟨mm_ald _ _, ml_ald _ _⟩ ?_
  refine mb_l_cons ⟨mm_ild _ _, ml_ild _ _⟩ ?_
  refine mb_l_cons ⟨mm_push _ _, ml_push _ _⟩ ?_
  refine mb_l_cons ⟨mm_iadd _, ml_iadd _⟩ ?_
  refine mb_l_cons ⟨mm_iald _, ml_iald _⟩ ?_
  refine mb_l_cons ⟨mm_ald _ _, ml_ald _ _⟩ ?_
  refine mb_l_cons ⟨mm_ild _ _, ml_ild _ _⟩ ?_
  refine mb_l_cons ⟨mm_push _ _, ml_push _ _⟩ ?_
  refine mb_l_cons ⟨mm_iadd _, ml_iadd _⟩ ?_
  refine mb_l_cons ⟨mm_iald _, ml_iald _⟩ ?_
  refine mb_l_cons ⟨mm_callv _ _ _ _ _, ml_callv _ _ _ _ _⟩ ?_
  refine mb_l_cons ⟨mm_ist _ _, ml_ist _ _⟩ ?_
  refine mb_l_cons ⟨mm_ald _ _, ml_ald _ _⟩ ?_
  refine mb_l_cons ⟨mm_callv _ _ _ _ _, ml_callv _ _ _ _ _⟩ ?_
  refine mb_l_cons ⟨mm_ild _ _, ml_ild _ _⟩ ?_
  refine mb_l_cons ⟨mm_if2 _ _ _, ml_if2 _ _ _⟩ ?_
  refine mb_l_cons ⟨mm_push _ _, ml_push _ _⟩ ?_
  refine mb_l_cons ⟨mm_zret, ml_zret⟩ ?_
  refine mb_l_cons ⟨mm_ild _ _, ml_ild _ _⟩ ?_
  refine mb_l_cons ⟨mm_if1 _ _ _, ml_if1 _ _ _⟩ ?_
  refine mb_l_cons ⟨mm_ald _ _, ml_ald _ _⟩ ?_
  refine mb_l_cons ⟨mm_push _ _, ml_push _ _⟩ ?_
  refine mb_l_cons ⟨mm_lald _, ml_lald _⟩ ?_
  refine mb_l_cons ⟨mm_ild _ _, ml_ild _ _⟩ ?_
  refine mb_l_cons ⟨mm_i2l _, ml_i2l _⟩ ?_
  refine mb_l_cons ⟨mm_lcmp _, ml_lcmp _⟩ ?_
  refine mb_l_cons ⟨mm_if1 _ _ _, ml_if1 _ _ _⟩ ?_
  refine mb_l_cons ⟨mm_push _ _, ml_push _ _⟩ ?_
  refine mb_l_cons ⟨mm_zret, ml_zret⟩ ?_
  refine mb_l_cons ⟨mm_go _, ml_go _⟩ ?_
  refine mb_l_cons ⟨mm_ald _ _, ml_ald _ _⟩ ?_
  refine mb_l_cons ⟨mm_ald _ _, ml_ald _ _⟩ ?_
  refine mb_l_cons ⟨mm_ild _ _, ml_ild _ _⟩ ?_
  refine mb_l_cons ⟨mm_push _ _, ml_push _ _⟩ ?_
  refine mb_l_cons ⟨mm_iadd _, ml_iadd _⟩ ?_
  refine mb_l_cons ⟨mm_iald _, ml_iald _⟩ ?_
  refine mb_l_cons ⟨mm_ald _ _, ml_ald _ _⟩ ?_
  refine mb_l_cons ⟨mm_calls _ _ _, ml_calls _ _ _⟩ ?_
  refine mb_l_cons ⟨mm_ist _ _, ml_ist _ _⟩ ?_
  refine mb_l_cons ⟨mm_ald _ _, ml_ald _ _⟩ ?_
  refine mb_l_cons ⟨mm_ald _ _, ml_ald _ _⟩ ?_
  refine mb_l_cons ⟨mm_ild _ _, ml_ild _ _⟩ ?_
  refine mb_l_cons ⟨mm_push _ _, ml_push _ _⟩ ?_
  refine mb_l_cons ⟨mm_iadd _, ml_iadd _⟩ ?_
  refine mb_l_cons ⟨mm_iald _, ml_iald _⟩ ?_
  refine mb_l_cons ⟨mm_callv _ _ _ _ _, ml_callv _ _ _ _ _⟩ ?_
  refine mb_l_cons ⟨mm_ist _ _, ml_ist _ _⟩ ?_
  refine mb_l_cons ⟨mm_ald _ _, ml_ald _ _⟩ ?_
  refine mb_l_cons ⟨mm_callv _ _ _ _ _, ml_callv _ _ _ _ _⟩ ?_
  refine mb_l_cons ⟨mm_ild _ _, ml_ild _ _⟩ ?_
  refine mb_l_cons ⟨mm_if2 _ _ _, ml_if2 _ _ _⟩ ?_
  refine mb_l_cons ⟨mm_push _ _, ml_push _ _⟩ ?_
  refine mb_l_cons ⟨mm_zret, ml_zret⟩ ?_
  refine mb_l_cons ⟨mm_ild _ _, ml_ild _ _⟩ ?_
  refine mb_l_cons ⟨mm_if1 _ _ _, ml_if1 _ _ _⟩ ?_
  refine mb_l_cons ⟨mm_ald _ _, ml_ald _ _⟩ ?_
  refine mb_l_cons ⟨mm_push _ _, ml_push _ _⟩ ?_
  refine mb_l_cons ⟨mm_lald _, ml_lald _⟩ ?_
  refine mb_l_cons ⟨mm_ild _ _, ml_ild _ _⟩ ?_
  refine mb_l_cons ⟨mm_i2l _, ml_i2l _⟩ ?_
  refine mb_l_cons ⟨mm_lcmp _, ml_lcmp _⟩ ?_
  refine mb_l_cons ⟨mm_if1 _ _ _, ml_if1 _ _ _⟩ ?_
  refine mb_l_cons ⟨mm_push _ _, ml_push _ _⟩ ?_
  refine mb_l_cons ⟨mm_zret, ml_zret⟩ ?_
  refine mb_l_cons ⟨mm_go _, ml_go _⟩ ?_
  refine mb_l_cons ⟨mm_ald _ _, ml_ald _ _⟩ ?_
  refine mb_l_cons ⟨mm_ald _ _, ml_ald _ _⟩ ?_
  refine mb_l_cons ⟨mm_ild _ _, ml_ild _ _⟩ ?_
  refine mb_l_cons ⟨mm_push _ _, ml_push _ _⟩ ?_
  refine mb_l_cons ⟨mm_iadd _, ml_iadd _⟩ ?_
  refine mb_l_cons ⟨mm_iald _, ml_iald _⟩ ?_
  refine mb_l_cons ⟨mm_ald _ _, ml_ald _ _⟩ ?_
  refine mb_l_cons ⟨mm_ild _ _, ml_ild _ _⟩ ?_
  refine mb_l_cons ⟨mm_push _ _, ml_push _ _⟩ ?_
  refine mb_l_cons ⟨mm_iadd _, ml_iadd _⟩ ?_
  refine mb_l_cons ⟨mm_iald _, ml_iald _⟩ ?_
  refine mb_l_cons ⟨mm_ald _ _, ml_ald _ _⟩ ?_
  refine mb_l_cons ⟨mm_ild _ _, ml_ild _ _⟩ ?_
  refine mb_l_cons ⟨mm_push _ _, ml_push _ _⟩ ?_
  refine mb_l_cons ⟨mm_iadd _, ml_iadd _⟩ ?_
  refine mb_l_cons ⟨mm_iald _, ml_iald _⟩ ?_
  refine mb_l_cons ⟨mm_ald _ _, ml_ald _ _⟩ ?_
  refine mb_l_cons ⟨mm_ild _ _, ml_ild _ _⟩ ?_
  refine mb_l_cons ⟨mm_push _ _, ml_push _ _⟩ ?_
  refine mb_l_cons ⟨mm_iadd _, ml_iadd _⟩ ?_
  refine mb_l_cons ⟨mm_iald _, ml_iald _⟩ ?_
  refine mb_l_cons ⟨mm_ald _ _, ml_ald _ _⟩ ?_
  refine mb_l_cons ⟨mm_ild _ _, ml_ild _ _⟩ ?_
  refine mb_l_cons ⟨mm_push _ _, ml_push _ _⟩ ?_
  refine mb_l_cons ⟨mm_iadd _, ml_iadd _⟩ ?_
  refine mb_l_cons ⟨mm_iald _, ml_iald _⟩ ?_
  refine mb_l_cons ⟨mm_ald _ _, ml_ald _ _⟩ ?_
  refine mb_l_cons ⟨mm_calls _ _ _, ml_calls _ _ _⟩ ?_
  refine mb_l_cons ⟨mm_ist _ _, ml_ist _ _⟩ ?_
  refine mb_l_cons ⟨mm_ald _ _, ml_ald _ _⟩ ?_
  refine mb_l_cons ⟨mm_ald _ _, ml_ald _ _⟩ ?_
  refine mb_l_cons ⟨mm_ild _ _, ml_ild _ _⟩ ?_
  refine mb_l_cons ⟨mm_push _ _, ml_push _ _⟩ ?_
  refine mb_l_cons ⟨mm_iadd _, ml_iadd _⟩ ?_
  refine mb_l_cons ⟨mm_iald _, ml_iald _⟩ ?_
  refine mb_l_cons ⟨mm_ald _ _, ml_ald _ _⟩ ?_
  refine mb_l_cons ⟨mm_ild _ _, ml_ild _ _⟩ ?_
  refine mb_l_cons ⟨mm_push _ _, ml_push _ _⟩ ?_
  refine mb_l_cons ⟨mm_iadd _, ml_iadd _⟩ ?_
  refine mb_l_cons ⟨mm_iald _, ml_iald _⟩ ?_
  refine mb_l_cons ⟨mm_ald _ _, ml_ald _ _⟩ ?_
  refine mb_l_cons ⟨mm_ild _ _, ml_ild _ _⟩ ?_
  refine mb_l_cons ⟨mm_push _ _, ml_push _ _⟩ ?_
  refine mb_l_cons ⟨mm_iadd _, ml_iadd _⟩ ?_
  refine mb_l_cons ⟨mm_iald _, ml_iald _⟩ ?_
  refine mb_l_cons ⟨mm_ald _ _, ml_ald _ _⟩ ?_
  refine mb_l_cons ⟨mm_ild _ _, ml_ild _ _⟩ ?_
  refine mb_l_cons ⟨mm_push _ _, ml_push _ _⟩ ?_
  refine mb_l_cons ⟨mm_iadd _, ml_iadd _⟩ ?_
  refine mb_l_cons ⟨mm_iald _, ml_iald _⟩ ?_
  refine mb_l_cons ⟨mm_ald _ _, ml_ald _ _⟩ ?_
  refine mb_l_cons ⟨mm_ild _ _, ml_ild _ _⟩ ?_
  refine mb_l_cons ⟨mm_push _ _, ml_push _ _⟩ ?_
  refine mb_l_cons ⟨mm_iadd _, ml_iadd _⟩ ?_
  refine mb_l_cons ⟨mm_iald _, ml_iald _⟩ ?_
  refine mb_l_cons ⟨mm_callv _ _ _ _ _, ml_callv _ _ _ _ _⟩ ?_
  refine mb_l_cons ⟨mm_ist _ _, ml_ist _ _⟩ ?_
  refine mb_l_cons ⟨mm_ald _ _, ml_ald _ _⟩ ?_
  refine mb_l_cons ⟨mm_callv _ _ _ _ _, ml_callv _ _ _ _ _⟩ ?_
  refine mb_l_cons ⟨mm_ild _ _, ml_ild _ _⟩ ?_
  refine mb_l_cons ⟨mm_if2 _ _ _, ml_if2 _ _ _⟩ ?_
  refine mb_l_cons ⟨mm_push _ _, ml_push _ _⟩ ?_
  refine mb_l_cons ⟨mm_zret, ml_zret⟩ ?_
  refine mb_l_cons ⟨mm_ild _ _, ml_ild _ _⟩ ?_
  refine mb_l_cons ⟨mm_if1 _ _ _, ml_if1 _ _ _⟩ ?_
  refine mb_l_cons ⟨mm_ald _ _, ml_ald _ _⟩ ?_
  refine mb_l_cons ⟨mm_push _ _, ml_push _ _⟩ ?_
  refine mb_l_cons ⟨mm_lald _, ml_lald _⟩ ?_
  refine mb_l_cons ⟨mm_ild _ _, ml_ild _ _⟩ ?_
  refine mb_l_cons ⟨mm_i2l _, ml_i2l _⟩ ?_
  refine mb_l_cons ⟨mm_lcmp _, ml_lcmp _⟩ ?_
  refine mb_l_cons ⟨mm_if1 _ _ _, ml_if1 _ _ _⟩ ?_
  refine mb_l_cons ⟨mm_push _ _, ml_push _ _⟩ ?_
  refine mb_l_cons ⟨mm_zret, ml_zret⟩ ?_
  refine mb_l_cons ⟨mm_go _, ml_go _⟩ ?_
  refine mb_l_cons ⟨mm_ald _ _, ml_ald _ _⟩ ?_
  refine mb_l_cons ⟨mm_ald _ _, ml_ald _ _⟩ ?_
  refine mb_l_cons ⟨mm_ild _ _, ml_ild _ _⟩ ?_
  refine mb_l_cons ⟨mm_push _ _, ml_push _ _⟩ ?_
  refine mb_l_cons ⟨mm_iadd _, ml_iadd _⟩ ?_
  refine mb_l_cons ⟨mm_iald _, ml_iald _⟩ ?_
  refine mb_l_cons ⟨mm_ald _ _, ml_ald _ _⟩ ?_
  refine mb_l_cons ⟨mm_ild _ _, ml_ild _ _⟩ ?_
  refine mb_l_cons ⟨mm_push _ _, ml_push _ _⟩ ?_
  refine mb_l_cons ⟨mm_iadd _, ml_iadd _⟩ ?_
  refine mb_l_cons ⟨mm_iald _, ml_iald _⟩ ?_
  refine mb_l_cons ⟨mm_ald _ _, ml_ald _ _⟩ ?_
  refine mb_l_cons ⟨mm_ild _ _, ml_ild _ _⟩ ?_
  refine mb_l_cons ⟨mm_push _ _, ml_push _ _⟩ ?_
  refine mb_l_cons ⟨mm_iadd _, ml_iadd _⟩ ?_
  refine mb_l_cons ⟨mm_iald _, ml_iald _⟩ ?_
  refine mb_l_cons ⟨mm_ald _ _, ml_ald _ _⟩ ?_
  refine mb_l_cons ⟨mm_calls _ _ _, ml_calls _ _ _⟩ ?_
  refine mb_l_cons ⟨mm_ist _ _, ml_ist _ _⟩ ?_
  refine mb_l_cons ⟨mm_ald _ _, ml_ald _ _⟩ ?_
  refine mb_l_cons ⟨mm_ald _ _, ml_ald _ _⟩ ?_
  refine mb_l_cons ⟨mm_ild _ _, ml_ild _ _⟩ ?_
  refine mb_l_cons ⟨mm_push _ _, ml_push _ _⟩ ?_
  refine mb_l_cons ⟨mm_iadd _, ml_iadd _⟩ ?_
  refine mb_l_cons ⟨mm_iald _, ml_iald _⟩ ?_
  refine mb_l_cons ⟨mm_ald _ _, ml_ald _ _⟩ ?_
  refine mb_l_cons ⟨mm_ild _ _, ml_ild _ _⟩ ?_
  refine mb_l_cons ⟨mm_push _ _, ml_push _ _⟩ ?_
  refine mb_l_cons ⟨mm_iadd _, ml_iadd _⟩ ?_
  refine mb_l_cons ⟨mm_iald _, ml_iald _⟩ ?_
  refine mb_l_cons ⟨mm_ald _ _, ml_ald _ _⟩ ?_
  refine mb_l_cons ⟨mm_ild _ _, ml_ild _ _⟩ ?_
  refine mb_l_cons ⟨mm_push _ _, ml_push _ _⟩ ?_
  refine mb_l_cons ⟨mm_iadd _, ml_iadd _⟩ ?_
  refine mb_l_cons ⟨mm_iald _, ml_iald _⟩ ?_
  refine mb_l_cons ⟨mm_callv _ _ _ _ _, ml_callv _ _ _ _ _⟩ ?_
  refine mb_l_cons ⟨mm_ist _ _, ml_ist _ _⟩ ?_
  refine mb_l_cons ⟨mm_ald _ _, ml_ald _ _⟩ ?_
  refine mb_l_cons ⟨mm_callv _ _ _ _ _, ml_callv _ _ _ _ _⟩ ?_
  refine mb_l_cons ⟨mm_ild _ _, ml_ild _ _⟩ ?_
  refine mb_l_cons ⟨mm_if2 _ _ _, ml_if2 _ _ _⟩ ?_
  refine mb_l_cons ⟨mm_push _ _, ml_push _ _⟩ ?_
  refine mb_l_cons ⟨mm_zret, ml_zret⟩ ?_
  refine mb_l_cons ⟨mm_ild _ _, ml_ild _ _⟩ ?_
  refine mb_l_cons ⟨mm_if1 _ _ _, ml_if1 _ _ _⟩ ?_
  refine mb_l_cons ⟨mm_ald _ _, ml_ald _ _⟩ ?_
  refine mb_l_cons ⟨mm_push _ _, ml_push _ _⟩ ?_
  refine mb_l_cons ⟨mm_lald _, ml_lald _⟩ ?_
  refine mb_l_cons ⟨mm_ild _ _, ml_ild _ _⟩ ?_
  refine mb_l_cons ⟨mm_i2l _, ml_i2l _⟩ ?_
  refine mb_l_cons ⟨mm_lcmp _, ml_lcmp _⟩ ?_
  refine mb_l_cons ⟨mm_if1 _ _ _, ml_if1 _ _ _⟩ ?_
  refine mb_l_cons ⟨mm_push _ _, ml_push _ _⟩ ?_
  refine mb_l_cons ⟨mm_zret, ml_zret⟩ ?_
  refine mb_l_cons ⟨mm_go _, ml_go _⟩ ?_
  refine mb_l_cons ⟨mm_ald _ _, ml_ald _ _⟩ ?_
  refine mb_l_cons ⟨mm_ald _ _, ml_ald _ _⟩ ?_
  refine mb_l_cons ⟨mm_ild _ _, ml_ild _ _⟩ ?_
  refine mb_l_cons ⟨mm_push _ _, ml_push _ _⟩ ?_
  refine mb_l_cons ⟨mm_iadd _, ml_iadd _⟩ ?_
  refine mb_l_cons ⟨mm_iald _, ml_iald _⟩ ?_
  refine mb_l_cons ⟨mm_ald _ _, ml_ald _ _⟩ ?_
  refine mb_l_cons ⟨mm_ild _ _, ml_ild _ _⟩ ?_
  refine mb_l_cons ⟨mm_push _ _, ml_push _ _⟩ ?_
  refine mb_l_cons ⟨mm_iadd _, ml_iadd _⟩ ?_
  refine mb_l_cons ⟨mm_iald _, ml_iald _⟩ ?_
  refine mb_l_cons ⟨mm_ald _ _, ml_ald _ _⟩ ?_
  refine mb_l_cons ⟨mm_calls _ _ _, ml_calls _ _ _⟩ ?_
  refine mb_l_cons ⟨mm_ist _ _, ml_ist _ _⟩ ?_
  refine mb_l_cons ⟨mm_ald _ _, ml_ald _ _⟩ ?_
  refine mb_l_cons ⟨mm_ald _ _, ml_ald _ _⟩ ?_
  refine mb_l_cons ⟨mm_ild _ _, ml_ild _ _⟩ ?_
  refine mb_l_cons ⟨mm_push _ _, ml_push _ _⟩ ?_
  refine mb_l_cons ⟨mm_iadd _, ml_iadd _⟩ ?_
  refine mb_l_cons ⟨mm_iald _, ml_iald _⟩ ?_
  refine mb_l_cons ⟨mm_ald _ _, ml_ald _ _⟩ ?_
  refine mb_l_cons ⟨mm_ild _ _, ml_ild _ _⟩ ?_
  refine mb_l_cons ⟨mm_push _ _, ml_push _ _⟩ ?_
  refine mb_l_cons ⟨mm_iadd _, ml_iadd _⟩ ?_
  refine mb_l_cons ⟨mm_iald _, ml_iald _⟩ ?_
  refine mb_l_cons ⟨mm_callv _ _ _ _ _, ml_callv _ _ _ _ _⟩ ?_
  refine mb_l_cons ⟨mm_ist _ _, ml_ist _ _⟩ ?_
  refine mb_l_cons ⟨mm_ald _ _, ml_ald _ _⟩ ?_
  refine mb_l_cons ⟨mm_callv _ _ _ _ _, ml_callv _ _ _ _ _⟩ ?_
  refine mb_l_cons ⟨mm_ild _ _, ml_ild _ _⟩ ?_
  refine mb_l_cons ⟨mm_if2 _ _ _, ml_if2 _ _ _⟩ ?_
  refine mb_l_cons ⟨mm_push _ _, ml_push _ _⟩ ?_
  refine mb_l_cons ⟨mm_zret, ml_zret⟩ ?_
  refine mb_l_cons ⟨mm_ild _ _, ml_ild _ _⟩ ?_
  refine mb_l_cons ⟨mm_if1 _ _ _, ml_if1 _ _ _⟩ ?_
  refine mb_l_cons ⟨mm_ald _ _, ml_ald _ _⟩ ?_
  refine mb_l_cons ⟨mm_push _ _, ml_push _ _⟩ ?_
  refine mb_l_cons ⟨mm_lald _, ml_lald _⟩ ?_
  refine mb_l_cons ⟨mm_ild _ _, ml_ild _ _⟩ ?_
  refine mb_l_cons ⟨mm_i2l _, ml_i2l _⟩ ?_
  refine mb_l_cons ⟨mm_lcmp _, ml_lcmp _⟩ ?_
  refine mb_l_cons ⟨mm_if1 _ _ _, ml_if1 _ _ _⟩ ?_
  refine mb_l_cons ⟨mm_push _ _, ml_push _ _⟩ ?_
  refine mb_l_cons ⟨mm_zret, ml_zret⟩ ?_
  refine mb_l_cons ⟨mm_go _, ml_go _⟩ ?_
  refine mb_l_cons ⟨mm_ald _ _, ml_ald _ _⟩ ?_
  refine mb_l_cons ⟨mm_ald _ _, ml_ald _ _⟩ ?_
  refine mb_l_cons ⟨mm_ild _ _, ml_ild _ _⟩ ?_
  refine mb_l_cons ⟨mm_push _ _, ml_push _ _⟩ ?_
  refine mb_l_cons ⟨mm_iadd _, ml_iadd _⟩ ?_
  refine mb_l_cons ⟨mm_iald _, ml_iald _⟩ ?_
  refine mb_l_cons ⟨mm_ald _ _, ml_ald _ _⟩ ?_
  refine mb_l_cons ⟨mm_calls _ _ _, ml_calls _ _ _⟩ ?_
  refine mb_l_cons ⟨mm_ist _ _, ml_ist _ _⟩ ?_
  refine mb_l_cons ⟨mm_ald _ _, ml_ald _ _⟩ ?_
  refine mb_l_cons ⟨mm_ald _ _, ml_ald _ _⟩ ?_
  refine mb_l_cons ⟨mm_ild _ _, ml_ild _ _⟩ ?_
  refine mb_l_cons ⟨mm_push _ _, ml_push _ _⟩ ?_
  refine mb_l_cons ⟨mm_iadd _, ml_iadd _⟩ ?_
  refine mb_l_cons ⟨mm_iald _, ml_iald _⟩ ?_
  refine mb_l_cons ⟨mm_callv _ _ _ _ _, ml_callv _ _ _ _ _⟩ ?_
  refine mb_l_cons ⟨mm_ist _ _, ml_ist _ _⟩ ?_
  refine mb_l_cons ⟨mm_ald _ _, ml_ald _ _⟩ ?_
  refine mb_l_cons ⟨mm_callv _ _ _ _ _, ml_callv _ _ _ _ _⟩ ?_
  refine mb_l_cons ⟨mm_ild _ _, ml_ild _ _⟩ ?_
  refine mb_l_cons ⟨mm_if2 _ _ _, ml_if2 _ _ _⟩ ?_
  refine mb_l_cons ⟨mm_push _ _, ml_push _ _⟩ ?_
  refine mb_l_cons ⟨mm_zret, ml_zret⟩ ?_
  refine mb_l_cons ⟨mm_ild _ _, ml_ild _ _⟩ ?_
  refine mb_l_cons ⟨mm_if1 _ _ _, ml_if1 _ _ _⟩ ?_
  refine mb_l_cons ⟨mm_ald _ _, ml_ald _ _⟩ ?_
  refine mb_l_cons ⟨mm_push _ _, ml_push _ _⟩ ?_
  refine mb_l_cons ⟨mm_lald _, ml_lald _⟩ ?_
  refine mb_l_cons ⟨mm_ild _ _, ml_ild _ _⟩ ?_
  refine mb_l_cons ⟨mm_i2l _, ml_i2l _⟩ ?_
  refine mb_l_cons ⟨mm_lcmp _, ml_lcmp _⟩ ?_
  refine mb_l_cons ⟨mm_if1 _ _ _, ml_if1 _ _ _⟩ ?_
  refine mb_l_cons ⟨mm_push _ _, ml_push _ _⟩ ?_
  refine mb_l_cons ⟨mm_zret, ml_zret⟩ ?_
  refine mb_l_cons ⟨mm_go _, ml_go _⟩ ?_
  refine mb_l_cons ⟨mm_ald _ _, ml_ald _ _⟩ ?_
  refine mb_l_cons ⟨mm_ald _ _, ml_ald _ _⟩ ?_
  refine mb_l_cons ⟨mm_ild _ _, ml_ild _ _⟩ ?_
  refine mb_l_cons ⟨mm_push _ _, ml_push _ _⟩ ?_
  refine mb_l_cons ⟨mm_iadd _, ml_iadd _⟩ ?_
  refine mb_l_cons ⟨mm_iald _, ml_iald _⟩ ?_
  refine mb_l_cons ⟨mm_ald _ _, ml_ald _ _⟩ ?_
  refine mb_l_cons ⟨mm_ild _ _, ml_ild _ _⟩ ?_
  refine mb_l_cons ⟨mm_push _ _, ml_push _ _⟩ ?_
  refine mb_l_cons ⟨mm_iadd _, ml_iadd _⟩ ?_
  refine mb_l_cons ⟨mm_iald _, ml_iald _⟩ ?_
  refine mb_l_cons ⟨mm_ald _ _, ml_ald _ _⟩ ?_
  refine mb_l_cons ⟨mm_calls _ _ _, ml_calls _ _ _⟩ ?_
  refine mb_l_cons ⟨mm_ist _ _, ml_ist _ _⟩ ?_
  refine mb_l_cons ⟨mm_ald _ _, ml_ald _ _⟩ ?_
  refine mb_l_cons ⟨mm_ald _ _, ml_ald _ _⟩ ?_
  refine mb_l_cons ⟨mm_ild _ _, ml_ild _ _⟩ ?_
  refine mb_l_cons ⟨mm_push _ _, ml_push _ _⟩ ?_
  refine mb_l_cons ⟨mm_iadd _, ml_iadd _⟩ ?_
  refine mb_l_cons ⟨mm_iald _, ml_iald _⟩ ?_
  refine mb_l_cons ⟨mm_ald _ _, ml_ald _ _⟩ ?_
  refine mb_l_cons ⟨mm_ild _ _, ml_ild _ _⟩ ?_
  refine mb_l_cons ⟨mm_push _ _, ml_push _ _⟩ ?_
  refine mb_l_cons ⟨mm_iadd _, ml_iadd _⟩ ?_
  refine mb_l_cons ⟨mm_iald _, ml_iald _⟩ ?_
  refine mb_l_cons ⟨mm_callv _ _ _ _ _, ml_callv _ _ _ _ _⟩ ?_
  refine mb_l_cons ⟨mm_ist _ _, ml_ist _ _⟩ ?_
  refine mb_l_cons ⟨mm_ald _ _, ml_ald _ _⟩ ?_
  refine mb_l_cons ⟨mm_callv _ _ _ _ _, ml_callv _ _ _ _ _⟩ ?_
  refine mb_l_cons ⟨mm_ild _ _, ml_ild _ _⟩ ?_
  refine mb_l_cons ⟨mm_if2 _ _ _, ml_if2 _ _ _⟩ ?_
  refine mb_l_cons ⟨mm_push _ _, ml_push _ _⟩ ?_
  refine mb_l_cons ⟨mm_zret, ml_zret⟩ ?_
  refine mb_l_cons ⟨mm_ild _ _, ml_ild _ _⟩ ?_
  refine mb_l_cons ⟨mm_if1 _ _ _, ml_if1 _ _ _⟩ ?_
  refine mb_l_cons ⟨mm_ald _ _, ml_ald _ _⟩ ?_
  refine mb_l_cons ⟨mm_push _ _, ml_push _ _⟩ ?_
  refine mb_l_cons ⟨mm_lald _, ml_lald _⟩ ?_
  refine mb_l_cons ⟨mm_ild _ _, ml_ild _ _⟩ ?_
  refine mb_l_cons ⟨mm_i2l _, ml_i2l _⟩ ?_
  refine mb_l_cons ⟨mm_lcmp _, ml_lcmp _⟩ ?_
  refine mb_l_cons ⟨mm_if1 _ _ _, ml_if1 _ _ _⟩ ?_
  refine mb_l_cons ⟨mm_push _ _, ml_push _ _⟩ ?_
  refine mb_l_cons ⟨mm_zret, ml_zret⟩ ?_
  refine mb_l_cons ⟨mm_go _, ml_go _⟩ ?_
  refine mb_l_cons ⟨mm_ald _ _, ml_ald _ _⟩ ?_
  refine mb_l_cons ⟨mm_ald _ _, ml_ald _ _⟩ ?_
  refine mb_l_cons ⟨mm_ild _ _, ml_ild _ _⟩ ?_
  refine mb_l_cons ⟨mm_push _ _, ml_push _ _⟩ ?_
  refine mb_l_cons ⟨mm_iadd _, ml_iadd _⟩ ?_
  refine mb_l_cons ⟨mm_iald _, ml_iald _⟩ ?_
  refine mb_l_cons ⟨mm_ald _ _, ml_ald _ _⟩ ?_
  refine mb_l_cons ⟨mm_calls _ _ _, ml_calls _ _ _⟩ ?_
  refine mb_l_cons ⟨mm_ist _ _, ml_ist _ _⟩ ?_
  refine mb_l_cons ⟨mm_ald _ _, ml_ald _ _⟩ ?_
  refine mb_l_cons ⟨mm_ald _ _, ml_ald _ _⟩ ?_
  refine mb_l_cons ⟨mm_ild _ _, ml_ild _ _⟩ ?_
  refine mb_l_cons ⟨mm_push _ _, ml_push _ _⟩ ?_
  refine mb_l_cons ⟨mm_iadd _, ml_iadd _⟩ ?_
  refine mb_l_cons ⟨mm_iald _, ml_iald _⟩ ?_
  refine mb_l_cons ⟨mm_callv _ _ _ _ _, ml_callv _ _ _ _ _⟩ ?_
  refine mb_l_cons ⟨mm_ist _ _, ml_ist _ _⟩ ?_
  refine mb_l_cons ⟨mm_ald _ _, ml_ald _ _⟩ ?_
  refine mb_l_cons ⟨mm_callv _ _ _ _ _, ml_callv _ _ _ _ _⟩ ?_
  refine mb_l_cons ⟨mm_ild _ _, ml_ild _ _⟩ ?_
  refine mb_l_cons ⟨mm_if2 _ _ _, ml_if2 _ _ _⟩ ?_
  refine mb_l_cons ⟨mm_push _ _, ml_push _ _⟩ ?_
  refine mb_l_cons ⟨mm_zret, ml_zret⟩ ?_
  refine mb_l_cons ⟨mm_ild _ _, ml_ild _ _⟩ ?_
  refine mb_l_cons ⟨mm_if1 _ _ _, ml_if1 _ _ _⟩ ?_
  refine mb_l_cons ⟨mm_ald _ _, ml_ald _ _⟩ ?_
  refine mb_l_cons ⟨mm_push _ _, ml_push _ _⟩ ?_
  refine mb_l_cons ⟨mm_lald _, ml_lald _⟩ ?_
  refine mb_l_cons ⟨mm_ild _ _, ml_ild _ _⟩ ?_
  refine mb_l_cons ⟨mm_i2l _, ml_i2l _⟩ ?_
  refine mb_l_cons ⟨mm_lcmp _, ml_lcmp _⟩ ?_
  refine mb_l_cons ⟨mm_if1 _ _ _, ml_if1 _ _ _⟩ ?_
  refine mb_l_cons ⟨mm_push _ _, ml_push _ _⟩ ?_
  refine mb_l_cons ⟨mm_zret, ml_zret⟩ ?_
  refine mb_l_cons ⟨mm_go _, ml_go _⟩ ?_
  refine mb_l_cons ⟨mm_ald _ _, ml_ald _ _⟩ ?_
  refine mb_l_cons ⟨mm_ald _ _, ml_ald _ _⟩ ?_
  refine mb_l_cons ⟨mm_ild _ _, ml_ild _ _⟩ ?_
  refine mb_l_cons ⟨mm_push _ _, ml_push _ _⟩ ?_
  refine mb_l_cons ⟨mm_iadd _, ml_iadd _⟩ ?_
  refine mb_l_cons ⟨mm_iald _, ml_iald _⟩ ?_
  refine mb_l_cons ⟨mm_ald _ _, ml_ald _ _⟩ ?_
  refine mb_l_cons ⟨mm_ild _ _, ml_ild _ _⟩ ?_
  refine mb_l_cons ⟨mm_push _ _, ml_push _ _⟩ ?_
  refine mb_l_cons ⟨mm_iadd _, ml_iadd _⟩ ?_
  refine mb_l_cons ⟨mm_iald _, ml_iald _⟩ ?_
  refine mb_l_cons ⟨mm_ald _ _, ml_ald _ _⟩ ?_
  refine mb_l_cons ⟨mm_calls _ _ _, ml_calls _ _ _⟩ ?_
  refine mb_l_cons ⟨mm_ist _ _, ml_ist _ _⟩ ?_
  refine mb_l_cons ⟨mm_ald _ _, ml_ald _ _⟩ ?_
  refine mb_l_cons ⟨mm_ald _ _, ml_ald _ _⟩ ?_
  refine mb_l_cons ⟨mm_ild _ _, ml_ild _ _⟩ ?_
  refine mb_l_cons ⟨mm_push _ _, ml_push _ _⟩ ?_
  refine mb_l_cons ⟨mm_iadd _, ml_iadd _⟩ ?_
  refine mb_l_cons ⟨mm_iald _, ml_iald _⟩ ?_
  refine mb_l_cons ⟨mm_ald _ _, ml_ald _ _⟩ ?_
  refine mb_l_cons ⟨mm_ild _ _, ml_ild _ _⟩ ?_
  refine mb_l_cons ⟨mm_push _ _, ml_push _ _⟩ ?_
  refine mb_l_cons ⟨mm_iadd _, ml_iadd _⟩ ?_
  refine mb_l_cons ⟨mm_iald _, ml_iald _⟩ ?_
  refine mb_l_cons ⟨mm_callv _ _ _ _ _, ml_callv _ _ _ _ _⟩ ?_
  refine mb_l_cons ⟨mm_ist _ _, ml_ist _ _⟩ ?_
  refine mb_l_cons ⟨mm_ald _ _, ml_ald _ _⟩ ?_
  refine mb_l_cons ⟨mm_callv _ _ _ _ _, ml_callv _ _ _ _ _⟩ ?_
  refine mb_l_cons ⟨mm_ild _ _, ml_ild _ _⟩ ?_
  refine mb_l_cons ⟨mm_if2 _ _ _, ml_if2 _ _ _⟩ ?_
  refine mb_l_cons ⟨mm_push _ _, ml_push _ _⟩ ?_
  refine mb_l_cons ⟨mm_zret, ml_zret⟩ ?_
  refine mb_l_cons ⟨mm_ild _ _, ml_ild _ _⟩ ?_
  refine mb_l_cons ⟨mm_if1 _ _ _, ml_if1 _ _ _⟩ ?_
  refine mb_l_cons ⟨mm_ald _ _, ml_ald _ _⟩ ?_
  refine mb_l_cons ⟨mm_push _ _, ml_push _ _⟩ ?_
  refine mb_l_cons ⟨mm_lald _, ml_lald _⟩ ?_
  refine mb_l_cons ⟨mm_ild _ _, ml_ild _ _⟩ ?_
  refine mb_l_cons ⟨mm_if1 _ _ _, ml_if1 _ _ _⟩ ?_
  refine mb_l_cons ⟨mm_push _ _, ml_push _ _⟩ ?_
  refine mb_l_cons ⟨mm_go _, ml_go _⟩ ?_
  refine mb_l_cons ⟨mm_push _ _, ml_push _ _⟩ ?_
  refine mb_l_cons ⟨mm_lcmp _, ml_lcmp _⟩ ?_
  refine mb_l_cons ⟨mm_if1 _ _ _, ml_if1 _ _ _⟩ ?_
  refine mb_l_cons ⟨mm_push _ _, ml_push _ _⟩ ?_
  refine mb_l_cons ⟨mm_zret, ml_zret⟩ ?_
  refine mb_l_cons ⟨mm_go _, ml_go _⟩ ?_
  refine mb_l_cons ⟨mm_ald _ _, ml_ald _ _⟩ ?_
  refine mb_l_cons ⟨mm_ald _ _, ml_ald _ _⟩ ?_
  refine mb_l_cons ⟨mm_ild _ _, ml_ild _ _⟩ ?_
  refine mb_l_cons ⟨mm_push _ _, ml_push _ _⟩ ?_
  refine mb_l_cons ⟨mm_iadd _, ml_iadd _⟩ ?_
  refine mb_l_cons ⟨mm_iald _, ml_iald _⟩ ?_
  refine mb_l_cons ⟨mm_ald _ _, ml_ald _ _⟩ ?_
  refine mb_l_cons ⟨mm_calls _ _ _, ml_calls _ _ _⟩ ?_
  refine mb_l_cons ⟨mm_ist _ _, ml_ist _ _⟩ ?_
  refine mb_l_cons ⟨mm_ald _ _, ml_ald _ _⟩ ?_
  refine mb_l_cons ⟨mm_ald _ _, ml_ald _ _⟩ ?_
  refine mb_l_cons ⟨mm_ild _ _, ml_ild _ _⟩ ?_
  refine mb_l_cons ⟨mm_push _ _, ml_push _ _⟩ ?_
  refine mb_l_cons ⟨mm_iadd _, ml_iadd _⟩ ?_
  refine mb_l_cons ⟨mm_iald _, ml_iald _⟩ ?_
  refine mb_l_cons ⟨mm_callv _ _ _ _ _, ml_callv _ _ _ _ _⟩ ?_
  refine mb_l_cons ⟨mm_ist _ _, ml_ist _ _⟩ ?_
  refine mb_l_cons ⟨mm_ald _ _, ml_ald _ _⟩ ?_
  refine mb_l_cons ⟨mm_callv _ _ _ _ _, ml_callv _ _ _ _ _⟩ ?_
  refine mb_l_cons ⟨mm_ild _ _, ml_ild _ _⟩ ?_
  refine mb_l_cons ⟨mm_if2 _ _ _, ml_if2 _ _ _⟩ ?_
  refine mb_l_cons ⟨mm_push _ _, ml_push _ _⟩ ?_
  refine mb_l_cons ⟨mm_zret, ml_zret⟩ ?_
  refine mb_l_cons ⟨mm_ild _ _, ml_ild _ _⟩ ?_
  refine mb_l_cons ⟨mm_if1 _ _ _, ml_if1 _ _ _⟩ ?_
  refine mb_l_cons ⟨mm_ald _ _, ml_ald _ _⟩ ?_
  refine mb_l_cons ⟨mm_push _ _, ml_push _ _⟩ ?_
  refine mb_l_cons ⟨mm_lald _, ml_lald _⟩ ?_
  refine mb_l_cons ⟨mm_ild _ _, ml_ild _ _⟩ ?_
  refine mb_l_cons ⟨mm_i2l _, ml_i2l _⟩ ?_
  refine mb_l_cons ⟨mm_lcmp _, ml_lcmp _⟩ ?_
  refine mb_l_cons ⟨mm_if1 _ _ _, ml_if1 _ _ _⟩ ?_
  refine mb_l_cons ⟨mm_push _ _, ml_push _ _⟩ ?_
  refine mb_l_cons ⟨mm_zret, ml_zret⟩ ?_
  refine mb_l_cons ⟨mm_go _, ml_go _⟩ ?_
  refine mb_l_cons ⟨mm_ald _ _, ml_ald _ _⟩ ?_
  refine mb_l_cons ⟨mm_ald _ _, ml_ald _ _⟩ ?_
  refine mb_l_cons ⟨mm_ild _ _, ml_ild _ _⟩ ?_
  refine mb_l_cons ⟨mm_push _ _, ml_push _ _⟩ ?_
  refine mb_l_cons ⟨mm_iadd _, ml_iadd _⟩ ?_
  refine mb_l_cons ⟨mm_iald _, ml_iald _⟩ ?_
  refine mb_l_cons ⟨mm_ald _ _, ml_ald _ _⟩ ?_
  refine mb_l_cons ⟨mm_calls _ _ _, ml_calls _ _ _⟩ ?_
  refine mb_l_cons ⟨mm_ist _ _, ml_ist _ _⟩ ?_
  refine mb_l_cons ⟨mm_ald _ _, ml_ald _ _⟩ ?_
  refine mb_l_cons ⟨mm_ald _ _, ml_ald _ _⟩ ?_
  refine mb_l_cons ⟨mm_ild _ _, ml_ild _ _⟩ ?_
  refine mb_l_cons ⟨mm_push _ _, ml_push _ _⟩ ?_
  refine mb_l_cons ⟨mm_iadd _, ml_iadd _⟩ ?_
  refine mb_l_cons ⟨mm_iald _, ml_iald _⟩ ?_
  refine mb_l_cons ⟨mm_callv _ _ _ _ _, ml_callv _ _ _ _ _⟩ ?_
  refine mb_l_cons ⟨mm_ist _ _, ml_ist _ _⟩ ?_
  refine mb_l_cons ⟨mm_ald _ _, ml_ald _ _⟩ ?_
  refine mb_l_cons ⟨mm_callv _ _ _ _ _, ml_callv _ _ _ _ _⟩ ?_
  refine mb_l_cons ⟨mm_ild _ _, ml_ild _ _⟩ ?_
  refine mb_l_cons ⟨mm_if2 _ _ _, ml_if2 _ _ _⟩ ?_
  refine mb_l_cons ⟨mm_push _ _, ml_push _ _⟩ ?_
  refine mb_l_cons ⟨mm_zret, ml_zret⟩ ?_
  refine mb_l_cons ⟨mm_ild _ _, ml_ild _ _⟩ ?_
  refine mb_l_cons ⟨mm_if1 _ _ _, ml_if1 _ _ _⟩ ?_
  refine mb_l_cons ⟨mm_ald _ _, ml_ald _ _⟩ ?_
  refine mb_l_cons ⟨mm_push _ _, ml_push _ _⟩ ?_
  refine mb_l_cons ⟨mm_lald _, ml_lald _⟩ ?_
  refine mb_l_cons ⟨mm_ild _ _, ml_ild _ _⟩ ?_
  refine mb_l_cons ⟨mm_i2l _, ml_i2l _⟩ ?_
  refine mb_l_cons ⟨mm_lcmp _, ml_lcmp _⟩ ?_
  refine mb_l_cons ⟨mm_if1 _ _ _, ml_if1 _ _ _⟩ ?_
  refine mb_l_cons ⟨mm_push _ _, ml_push _ _⟩ ?_
  refine mb_l_cons ⟨mm_zret, ml_zret⟩ ?_
  refine mb_l_cons ⟨mm_go _, ml_go _⟩ ?_
  refine mb_l_cons ⟨mm_ald _ _, ml_ald _ _⟩ ?_
  refine mb_l_cons ⟨mm_ald _ _, ml_ald _ _⟩ ?_
  refine mb_l_cons ⟨mm_ild _ _, ml_ild _ _⟩ ?_
  refine mb_l_cons ⟨mm_push _ _, ml_push _ _⟩ ?_
  refine mb_l_cons ⟨mm_iadd _, ml_iadd _⟩ ?_
  refine mb_l_cons ⟨mm_iald _, ml_iald _⟩ ?_
  refine mb_l_cons ⟨mm_ald _ _, ml_ald _ _⟩ ?_
  refine mb_l_cons ⟨mm_ild _ _, ml_ild _ _⟩ ?_
  refine mb_l_cons ⟨mm_push _ _, ml_push _ _⟩ ?_
  refine mb_l_cons ⟨mm_iadd _, ml_iadd _⟩ ?_
  refine mb_l_cons ⟨mm_iald _, ml_iald _⟩ ?_
  refine mb_l_cons ⟨mm_ald _ _, ml_ald _ _⟩ ?_
  refine mb_l_cons ⟨mm_ild _ _, ml_ild _ _⟩ ?_
  refine mb_l_cons ⟨mm_push _ _, ml_push _ _⟩ ?_
  refine mb_l_cons ⟨mm_iadd _, ml_iadd _⟩ ?_
  refine mb_l_cons ⟨mm_iald _, ml_iald _⟩ ?_
  refine mb_l_cons ⟨mm_ald _ _, ml_ald _ _⟩ ?_
  refine mb_l_cons ⟨mm_calls _ _ _, ml_calls _ _ _⟩ ?_
  refine mb_l_cons ⟨mm_ist _ _, ml_ist _ _⟩ ?_
  refine mb_l_cons ⟨mm_ald _ _, ml_ald _ _⟩ ?_
  refine mb_l_cons ⟨mm_ald _ _, ml_ald _ _⟩ ?_
  refine mb_l_cons ⟨mm_ild _ _, ml_ild _ _⟩ ?_
  refine mb_l_cons ⟨mm_push _ _, ml_push _ _⟩ ?_
  refine mb_l_cons ⟨mm_iadd _, ml_iadd _⟩ ?_
  refine mb_l_cons ⟨mm_iald _, ml_iald _⟩ ?_
  refine mb_l_cons ⟨mm_ald _ _, ml_ald _ _⟩ ?_
  refine mb_l_cons ⟨mm_ild _ _, ml_ild _ _⟩ ?_
  refine mb_l_cons ⟨mm_push _ _, ml_push _ _⟩ ?_
  refine mb_l_cons ⟨mm_iadd _, ml_iadd _⟩ ?_
  refine mb_l_cons ⟨mm_iald _, ml_iald _⟩ ?_
  refine mb_l_cons ⟨mm_ald _ _, ml_ald _ _⟩ ?_
  refine mb_l_cons ⟨mm_ild _ _, ml_ild _ _⟩ ?_
  refine mb_l_cons ⟨mm_push _ _, ml_push _ _⟩ ?_
  refine mb_l_cons ⟨mm_iadd _, ml_iadd _⟩ ?_
  refine mb_l_cons ⟨mm_iald _, ml_iald _⟩ ?_
  refine mb_l_cons ⟨mm_callv _ _ _ _ _, ml_callv _ _ _ _ _⟩ ?_
  refine mb_l_cons ⟨mm_ist _ _, ml_ist _ _⟩ ?_
  refine mb_l_cons ⟨mm_ald _ _, ml_ald _ _⟩ ?_
  refine mb_l_cons ⟨mm_callv _ _ _ _ _, ml_callv _ _ _ _ _⟩ ?_
  refine mb_l_cons ⟨mm_ild _ _, ml_ild _ _⟩ ?_
  refine mb_l_cons ⟨mm_if2 _ _ _, ml_if2 _ _ _⟩ ?_
  refine mb_l_cons ⟨mm_push _ _, ml_push _ _⟩ ?_
  refine mb_l_cons ⟨mm_zret, ml_zret⟩ ?_
  refine mb_l_cons ⟨mm_ild _ _, ml_ild _ _⟩ ?_
  refine mb_l_cons ⟨mm_if1 _ _ _, ml_if1 _ _ _⟩ ?_
  refine mb_l_cons ⟨mm_ald _ _, ml_ald _ _⟩ ?_
  refine mb_l_cons ⟨mm_push _ _, ml_push _ _⟩ ?_
  refine mb_l_cons ⟨mm_lald _, ml_lald _⟩ ?_
  refine mb_l_cons ⟨mm_ild _ _, ml_ild _ _⟩ ?_
  refine mb_l_cons ⟨mm_i2l _, ml_i2l _⟩ ?_
  refine mb_l_cons ⟨mm_lcmp _, ml_lcmp _⟩ ?_
  refine mb_l_cons ⟨mm_if1 _ _ _, ml_if1 _ _ _⟩ ?_
  refine mb_l_cons ⟨mm_push _ _, ml_push _ _⟩ ?_
  refine mb_l_cons ⟨mm_zret, ml_zret⟩ ?_
  refine mb_l_cons ⟨mm_go _, ml_go _⟩ ?_
  refine mb_l_cons ⟨mm_ald _ _, ml_ald _ _⟩ ?_
  refine mb_l_cons ⟨mm_ald _ _, ml_ald _ _⟩ ?_
  refine mb_l_cons ⟨mm_ild _ _, ml_ild _ _⟩ ?_
  refine mb_l_cons ⟨mm_push _ _, ml_push _ _⟩ ?_
  refine mb_l_cons ⟨mm_iadd _, ml_iadd _⟩ ?_
  refine mb_l_cons ⟨mm_iald _, ml_iald _⟩ ?_
  refine mb_l_cons ⟨mm_ald _ _, ml_ald _ _⟩ ?_
  refine mb_l_cons ⟨mm_ild _ _, ml_ild _ _⟩ ?_
  refine mb_l_cons ⟨mm_push _ _, ml_push _ _⟩ ?_
  refine mb_l_cons ⟨mm_iadd _, ml_iadd _⟩ ?_
  refine mb_l_cons ⟨mm_iald _, ml_iald _⟩ ?_
  refine mb_l_cons ⟨mm_ald _ _, ml_ald _ _⟩ ?_
  refine mb_l_cons ⟨mm_ild _ _, ml_ild _ _⟩ ?_
  refine mb_l_cons ⟨mm_push _ _, ml_push _ _⟩ ?_
  refine mb_l_cons ⟨mm_iadd _, ml_iadd _⟩ ?_
  refine mb_l_cons ⟨mm_iald _, ml_iald _⟩ ?_
  refine mb_l_cons ⟨mm_ald _ _, ml_ald _ _⟩ ?_
  refine mb_l_cons ⟨mm_calls _ _ _, ml_calls _ _ _⟩ ?_
  refine mb_l_cons ⟨mm_ist _ _, ml_ist _ _⟩ ?_
  refine mb_l_cons ⟨mm_ald _ _, ml_ald _ _⟩ ?_
  refine mb_l_cons ⟨mm_ald _ _, ml_ald _ _⟩ ?_
  refine mb_l_cons ⟨mm_ild _ _, ml_ild _ _⟩ ?_
  refine mb_l_cons ⟨mm_push _ _, ml_push _ _⟩ ?_
  refine mb_l_cons ⟨mm_iadd _, ml_iadd _⟩ ?_
  refine mb_l_cons ⟨mm_iald _, ml_iald _⟩ ?_
  refine mb_l_cons ⟨mm_ald _ _, ml_ald _ _⟩ ?_
  refine mb_l_cons ⟨mm_ild _ _, ml_ild _ _⟩ ?_
  refine mb_l_cons ⟨mm_push _ _, ml_push _ _⟩ ?_
  refine mb_l_cons ⟨mm_iadd _, ml_iadd _⟩ ?_
  refine mb_l_cons ⟨mm_iald _, ml_iald _⟩ ?_
  refine mb_l_cons ⟨mm_ald _ _, ml_ald _ _⟩ ?_
  refine mb_l_cons ⟨mm_ild _ _, ml_ild _ _⟩ ?_
  refine mb_l_cons ⟨mm_push _ _, ml_push _ _⟩ ?_
  refine mb_l_cons ⟨mm_iadd _, ml_iadd _⟩ ?_
  refine mb_l_cons ⟨mm_iald _, ml_iald _⟩ ?_
  refine mb_l_cons ⟨mm_callv _ _ _ _ _, ml_callv _ _ _ _ _⟩ ?_
  refine mb_l_cons ⟨mm_ist _ _, ml_ist _ _⟩ ?_
  refine mb_l_cons ⟨mm_ald _ _, ml_ald _ _⟩ ?_
  refine mb_l_cons ⟨mm_callv _ _ _ _ _, ml_callv _ _ _ _ _⟩ ?_
  refine mb_l_cons ⟨mm_ild _ _, ml_ild _ _⟩ ?_
  refine mb_l_cons ⟨mm_if2 _ _ _, ml_if2 _ _ _⟩ ?_
  refine mb_l_cons ⟨mm_push _ _, ml_push _ _⟩ ?_
  refine mb_l_cons ⟨mm_zret, ml_zret⟩ ?_
  refine mb_l_cons ⟨mm_ild _ _, ml_ild _ _⟩ ?_
  refine mb_l_cons ⟨mm_if1 _ _ _, ml_if1 _ _ _⟩ ?_
  refine mb_l_cons ⟨mm_ald _ _, ml_ald _ _⟩ ?_
  refine mb_l_cons ⟨mm_push _ _, ml_push _ _⟩ ?_
  refine mb_l_cons ⟨mm_lald _, ml_lald _⟩ ?_
  refine mb_l_cons ⟨mm_ild _ _, ml_ild _ _⟩ ?_
  refine mb_l_cons ⟨mm_i2l _, ml_i2l _⟩ ?_
  refine mb_l_cons ⟨mm_lcmp _, ml_lcmp _⟩ ?_
  refine mb_l_cons ⟨mm_if1 _ _ _, ml_if1 _ _ _⟩ ?_
  refine mb_l_cons ⟨mm_push _ _, ml_push _ _⟩ ?_
  refine mb_l_cons ⟨mm_zret, ml_zret⟩ ?_
  refine mb_l_cons ⟨mm_go _, ml_go _⟩ ?_
  refine mb_l_cons ⟨mm_ald _ _, ml_ald _ _⟩ ?_
  refine mb_l_cons ⟨mm_ald _ _, ml_ald _ _⟩ ?_
  refine mb_l_cons ⟨mm_ild _ _, ml_ild _ _⟩ ?_
  refine mb_l_cons ⟨mm_push _ _, ml_push _ _⟩ ?_
  refine mb_l_cons ⟨mm_iadd _, ml_iadd _⟩ ?_
  refine mb_l_cons ⟨mm_iald _, ml_iald _⟩ ?_
  refine mb_l_cons ⟨mm_ald _ _, ml_ald _ _⟩ ?_
  refine mb_l_cons ⟨mm_calls _ _ _, ml_calls _ _ _⟩ ?_
  refine mb_l_cons ⟨mm_ist _ _, ml_ist _ _⟩ ?_
  refine mb_l_cons ⟨mm_ald _ _, ml_ald _ _⟩ ?_
  refine mb_l_cons ⟨mm_ald _ _, ml_ald _ _⟩ ?_
  refine mb_l_cons ⟨mm_ild _ _, ml_ild _ _⟩ ?_
  refine mb_l_cons ⟨mm_push _ _, ml_push _ _⟩ ?_
  refine mb_l_cons ⟨mm_iadd _, ml_iadd _⟩ ?_
  refine mb_l_cons ⟨mm_iald _, ml_iald _⟩ ?_
  refine mb_l_cons ⟨mm_callv _ _ _ _ _, ml_callv _ _ _ _ _⟩ ?_
  refine mb_l_cons ⟨mm_ist _ _, ml_ist _ _⟩ ?_
  refine mb_l_cons ⟨mm_ald _ _, ml_ald _ _⟩ ?_
  refine mb_l_cons ⟨mm_callv _ _ _ _ _, ml_callv _ _ _ _ _⟩ ?_
  refine mb_l_cons ⟨mm_ild _ _, ml_ild _ _⟩ ?_
  refine mb_l_cons ⟨mm_if2 _ _ _, ml_if2 _ _ _⟩ ?_
  refine mb_l_cons ⟨mm_push _ _, ml_push _ _⟩ ?_
  refine mb_l_cons ⟨mm_zret, ml_zret⟩ ?_
  refine mb_l_cons ⟨mm_ild _ _, ml_ild _ _⟩ ?_
  refine mb_l_cons ⟨mm_if1 _ _ _, ml_if1 _ _ _⟩ ?_
  refine mb_l_cons ⟨mm_ald _ _, ml_ald _ _⟩ ?_
  refine mb_l_cons ⟨mm_push _ _, ml_push _ _⟩ ?_
  refine mb_l_cons ⟨mm_lald _, ml_lald _⟩ ?_
  refine mb_l_cons ⟨mm_ild _ _, ml_ild _ _⟩ ?_
  refine mb_l_cons ⟨mm_i2l _, ml_i2l _⟩ ?_
  refine mb_l_cons ⟨mm_lcmp _, ml_lcmp _⟩ ?_
  refine mb_l_cons ⟨mm_if1 _ _ _, ml_if1 _ _ _⟩ ?_
  refine mb_l_cons ⟨mm_push _ _, ml_push _ _⟩ ?_
  refine mb_l_cons ⟨mm_zret, ml_zret⟩ ?_
  refine mb_l_cons ⟨mm_go _, ml_go _⟩ ?_
  refine mb_l_cons ⟨mm_iinc _ _ _, ml_iinc _ _ _⟩ ?_
  refine mb_l_cons ⟨mm_go _, ml_go _⟩ ?_
  refine mb_l_cons ⟨mm_push _ _, ml_push _ _⟩ ?_
  refine mb_l_cons ⟨mm_zret, ml_zret⟩ ?_
  exact mb_l_nil
theorem mb_all_good : ∀ l ∈ mb_codes, ∀ pc i, mb_look l pc = some i → mb_Mon i ∧ mb_Le i := by
  unfold mb_codes
  refine List.forall_mem_cons.mpr ⟨mz_X0_init, ?_⟩
  refine List.forall_mem_cons.mpr ⟨mz_X0_addVersion, ?_⟩
  refine List.forall_mem_cons.mpr ⟨mz_X0_versionAt, ?_⟩
  refine List.forall_mem_cons.mpr ⟨mz_X0_looksAlike, ?_⟩
  refine List.forall_mem_cons.mpr ⟨mz_X1_init, ?_⟩
  refine List.forall_mem_cons.mpr ⟨mz_X1_covers, ?_⟩
  refine List.forall_mem_cons.mpr ⟨mz_X2_init, ?_⟩
  refine List.forall_mem_cons.mpr ⟨mz_X2_keysAhead, ?_⟩
  refine List.forall_mem_cons.mpr ⟨mz_X2_standsAt, ?_⟩
  refine List.forall_mem_cons.mpr ⟨mz_X2_hasRoomFor, ?_⟩
  refine List.forall_mem_cons.mpr ⟨mz_X2_put, ?_⟩
  refine List.forall_mem_cons.mpr ⟨mz_X2_take, ?_⟩
  refine List.forall_mem_cons.mpr ⟨mz_X2_moveKey, ?_⟩
  refine List.forall_mem_cons.mpr ⟨mz_X2_valueAt, ?_⟩
  refine List.forall_mem_cons.mpr ⟨mz_X2_valueAhead, ?_⟩
  refine List.forall_mem_cons.mpr ⟨mz_X2_copy, ?_⟩
  refine List.forall_mem_cons.mpr ⟨mz_X3_init, ?_⟩
  refine List.forall_mem_cons.mpr ⟨mz_X3_versionOf, ?_⟩
  refine List.forall_mem_cons.mpr ⟨mz_X3_keepVersion, ?_⟩
  refine List.forall_mem_cons.mpr ⟨mz_X4_init, ?_⟩
  refine List.forall_mem_cons.mpr ⟨mz_X4_followCut, ?_⟩
  refine List.forall_mem_cons.mpr ⟨mz_X5_init, ?_⟩
  refine List.forall_mem_cons.mpr ⟨mz_X5_hasBone, ?_⟩
  refine List.forall_mem_cons.mpr ⟨mz_X5_curveOf, ?_⟩
  refine List.forall_mem_cons.mpr ⟨mz_X5_addBone, ?_⟩
  refine List.forall_mem_cons.mpr ⟨mz_X5_append, ?_⟩
  refine List.forall_mem_cons.mpr ⟨mz_X5_ownValue, ?_⟩
  refine List.forall_mem_cons.mpr ⟨mz_X5_poseUpwards, ?_⟩
  refine List.forall_mem_cons.mpr ⟨mz_X5_poseAt, ?_⟩
  refine List.forall_mem_cons.mpr ⟨mz_X5_looksLike, ?_⟩
  refine List.forall_mem_cons.mpr ⟨mz_X5_versionOfIt, ?_⟩
  refine List.forall_mem_cons.mpr ⟨mz_X5_fixPoses, ?_⟩
  refine List.forall_mem_cons.mpr ⟨mz_X6_init, ?_⟩
  refine List.forall_mem_cons.mpr ⟨mz_X6_hasFrame, ?_⟩
  refine List.forall_mem_cons.mpr ⟨mz_X6_frameAt, ?_⟩
  refine List.forall_mem_cons.mpr ⟨mz_X6_castingOf, ?_⟩
  refine List.forall_mem_cons.mpr ⟨mz_X6_setCasting, ?_⟩
  refine List.forall_mem_cons.mpr ⟨mz_X6_removeFrames, ?_⟩
  refine List.forall_mem_cons.mpr ⟨mz_X6_follows, ?_⟩
  refine List.forall_mem_cons.mpr ⟨mz_X6_keepsUnlikeVersions, ?_⟩
  refine List.forall_mem_cons.mpr ⟨mz_X7_init, ?_⟩
  refine List.forall_mem_cons.mpr ⟨mz_X7_asset, ?_⟩
  refine List.forall_mem_cons.mpr ⟨mz_X7_bone, ?_⟩
  refine List.forall_mem_cons.mpr ⟨mz_X7_key, ?_⟩
  refine List.forall_mem_cons.mpr ⟨mz_X7_unkey, ?_⟩
  refine List.forall_mem_cons.mpr ⟨mz_X7_publish, ?_⟩
  refine List.forall_mem_cons.mpr ⟨mz_X7_pose, ?_⟩
  refine List.forall_mem_cons.mpr ⟨mz_X7_poseAnew, ?_⟩
  refine List.forall_mem_cons.mpr ⟨mz_X7_ofAsset, ?_⟩
  refine List.forall_mem_cons.mpr ⟨mz_X7_scene, ?_⟩
  refine List.forall_mem_cons.mpr ⟨mz_X7_cast, ?_⟩
  refine List.forall_mem_cons.mpr ⟨mz_X7_cut, ?_⟩
  refine List.forall_mem_cons.mpr ⟨mz_X7_note, ?_⟩
  refine List.forall_mem_cons.mpr ⟨mz_X7_settle, ?_⟩
  refine List.forall_mem_cons.mpr ⟨mz_X7_ofNote, ?_⟩
  refine List.forall_mem_cons.mpr ⟨mz_X7_render, ?_⟩
  refine List.forall_mem_cons.mpr ⟨mz_X7_renderOne, ?_⟩
  refine List.forall_mem_cons.mpr ⟨mz_X7_needs, ?_⟩
  refine List.forall_mem_cons.mpr ⟨mz_X7_mixes, ?_⟩
  refine List.forall_mem_cons.mpr ⟨mz_X7_ofFrame, ?_⟩
  refine List.forall_mem_cons.mpr ⟨mz_X7_kept, ?_⟩
  refine List.forall_mem_cons.mpr ⟨mz_X7_count, ?_⟩
  refine List.forall_mem_cons.mpr ⟨mz_X7_assetAt, ?_⟩
  refine List.forall_mem_cons.mpr ⟨mz_X7_sceneAt, ?_⟩
  refine List.forall_mem_cons.mpr ⟨mz_X7_noteAt, ?_⟩
  refine List.forall_mem_cons.mpr ⟨mz_X7_draftCurve, ?_⟩
  refine List.forall_mem_cons.mpr ⟨mz_X7_rigOf, ?_⟩
  refine List.forall_mem_cons.mpr ⟨mz_X7_isCurveFrame, ?_⟩
  refine List.forall_mem_cons.mpr ⟨mz_X7_canBeShown, ?_⟩
  refine List.forall_mem_cons.mpr ⟨mz_X7_seenVersion, ?_⟩
  refine List.forall_mem_cons.mpr ⟨mz_X7_seenRig, ?_⟩
  refine List.forall_mem_cons.mpr ⟨mz_X7_bonesSeen, ?_⟩
  refine List.forall_mem_cons.mpr ⟨mz_X7_keepVersions, ?_⟩
  refine List.forall_mem_cons.mpr ⟨mz_X7_countRendering, ?_⟩
  refine List.forall_mem_cons.mpr ⟨mz_X7_isStale, ?_⟩
  refine List.forall_mem_cons.mpr ⟨mz_X7_staleFrames, ?_⟩
  refine List.forall_mem_cons.mpr ⟨mz_X7_moveNotes, ?_⟩
  refine List.forall_mem_cons.mpr ⟨mz_X7_openNotesOfScene, ?_⟩
  refine List.forall_mem_cons.mpr ⟨mz_X7_openNotesOfFrame, ?_⟩
  refine List.forall_mem_cons.mpr ⟨mz_X7_scenesThatCast, ?_⟩
  refine List.forall_mem_cons.mpr ⟨mz_X7_allVersions, ?_⟩
  refine List.forall_mem_cons.mpr ⟨mz_X7_allFrames, ?_⟩
  refine List.forall_mem_cons.mpr ⟨mz_X7_allStaleFrames, ?_⟩
  refine List.forall_mem_cons.mpr ⟨mz_X7_allOpenNotes, ?_⟩
  refine List.forall_mem_cons.mpr ⟨mz_X8_init, ?_⟩
  refine List.forall_mem_cons.mpr ⟨mz_X8_thrown, ?_⟩
  refine List.forall_mem_cons.mpr ⟨mz_X8_holds, ?_⟩
  refine List.forall_mem_cons.mpr ⟨mz_X8_isIn, ?_⟩
  refine List.forall_mem_cons.mpr ⟨mz_X8_isAsset, ?_⟩
  refine List.forall_mem_cons.mpr ⟨mz_X8_isScene, ?_⟩
  refine List.forall_mem_cons.mpr ⟨mz_X8_isFrame, ?_⟩
  refine List.forall_mem_cons.mpr ⟨mz_X8_rigOf, ?_⟩
  refine List.forall_mem_cons.mpr ⟨mz_X8_isRig, ?_⟩
  refine List.forall_mem_cons.mpr ⟨mz_X8_isBone, ?_⟩
  refine List.forall_mem_cons.mpr ⟨mz_X8_keyAt, ?_⟩
  refine List.forall_mem_cons.mpr ⟨mz_X8_isKeyAt, ?_⟩
  refine List.forall_mem_cons.mpr ⟨mz_X8_down, ?_⟩
  refine List.forall_mem_cons.mpr ⟨mz_X8_valueAt, ?_⟩
  refine List.forall_mem_cons.mpr ⟨mz_X8_poseOf, ?_⟩
  refine List.forall_mem_cons.mpr ⟨mz_X8_asset, ?_⟩
  refine List.forall_mem_cons.mpr ⟨mz_X8_bone, ?_⟩
  refine List.forall_mem_cons.mpr ⟨mz_X8_laysKey, ?_⟩
  refine List.forall_mem_cons.mpr ⟨mz_X8_copiesKey, ?_⟩
  refine List.forall_mem_cons.mpr ⟨mz_X8_key, ?_⟩
  refine List.forall_mem_cons.mpr ⟨mz_X8_unkey, ?_⟩
  refine List.forall_mem_cons.mpr ⟨mz_X8_publish, ?_⟩
  refine List.forall_mem_cons.mpr ⟨mz_X8_poses, ?_⟩
  refine List.forall_mem_cons.mpr ⟨mz_X8_pose, ?_⟩
  refine List.forall_mem_cons.mpr ⟨mz_X8_poseAnew, ?_⟩
  refine List.forall_mem_cons.mpr ⟨mz_X8_castsOf, ?_⟩
  refine List.forall_mem_cons.mpr ⟨mz_X8_ofAsset, ?_⟩
  refine List.forall_mem_cons.mpr ⟨mz_X8_scene, ?_⟩
  refine List.forall_mem_cons.mpr ⟨mz_X8_cast, ?_⟩
  refine List.forall_mem_cons.mpr ⟨mz_X8_goesTo, ?_⟩
  refine List.forall_mem_cons.mpr ⟨mz_X8_carries, ?_⟩
  refine List.forall_mem_cons.mpr ⟨mz_X8_cut, ?_⟩
  refine List.forall_mem_cons.mpr ⟨mz_X8_note, ?_⟩
  refine List.forall_mem_cons.mpr ⟨mz_X8_unsettled, ?_⟩
  refine List.forall_mem_cons.mpr ⟨mz_X8_settle, ?_⟩
  refine List.forall_mem_cons.mpr ⟨mz_X8_ofNote, ?_⟩
  refine List.forall_mem_cons.mpr ⟨mz_X8_seenVersion, ?_⟩
  refine List.forall_mem_cons.mpr ⟨mz_X8_seenBones, ?_⟩
  refine List.forall_mem_cons.mpr ⟨mz_X8_isAsKept, ?_⟩
  refine List.forall_mem_cons.mpr ⟨mz_X8_isNeeded, ?_⟩
  refine List.forall_mem_cons.mpr ⟨mz_X8_keeps, ?_⟩
  refine List.forall_mem_cons.mpr ⟨mz_X8_renders, ?_⟩
  refine List.forall_mem_cons.mpr ⟨mz_X8_render, ?_⟩
  refine List.forall_mem_cons.mpr ⟨mz_X8_renderOne, ?_⟩
  refine List.forall_mem_cons.mpr ⟨mz_X8_needed, ?_⟩
  refine List.forall_mem_cons.mpr ⟨mz_X8_needs, ?_⟩
  refine List.forall_mem_cons.mpr ⟨mz_X8_isMixed, ?_⟩
  refine List.forall_mem_cons.mpr ⟨mz_X8_mixed, ?_⟩
  refine List.forall_mem_cons.mpr ⟨mz_X8_mixes, ?_⟩
  refine List.forall_mem_cons.mpr ⟨mz_X8_bonesAt, ?_⟩
  refine List.forall_mem_cons.mpr ⟨mz_X8_toldFrame, ?_⟩
  refine List.forall_mem_cons.mpr ⟨mz_X8_ofFrame, ?_⟩
  refine List.forall_mem_cons.mpr ⟨mz_X8_kept, ?_⟩
  refine List.forall_mem_cons.mpr ⟨mz_X8_countOf, ?_⟩
  refine List.forall_mem_cons.mpr ⟨mz_X8_count, ?_⟩
  refine List.forall_mem_cons.mpr ⟨mz_J9_floorDiv_7cf53, ?_⟩
  refine List.forall_mem_cons.mpr ⟨mz_L_asset, ?_⟩
  refine List.forall_mem_cons.mpr ⟨mz_L_bone, ?_⟩
  refine List.forall_mem_cons.mpr ⟨mz_L_key, ?_⟩
  refine List.forall_mem_cons.mpr ⟨mz_L_unkey, ?_⟩
  refine List.forall_mem_cons.mpr ⟨mz_L_publish, ?_⟩
  refine List.forall_mem_cons.mpr ⟨mz_L_pose, ?_⟩
  refine List.forall_mem_cons.mpr ⟨mz_L_poseAnew, ?_⟩
  refine List.forall_mem_cons.mpr ⟨mz_L_ofAsset, ?_⟩
  refine List.forall_mem_cons.mpr ⟨mz_L_scene, ?_⟩
  refine List.forall_mem_cons.mpr ⟨mz_L_cast, ?_⟩
  refine List.forall_mem_cons.mpr ⟨mz_L_cut, ?_⟩
  refine List.forall_mem_cons.mpr ⟨mz_L_note, ?_⟩
  refine List.forall_mem_cons.mpr ⟨mz_L_settle, ?_⟩
  refine List.forall_mem_cons.mpr ⟨mz_L_ofNote, ?_⟩
  refine List.forall_mem_cons.mpr ⟨mz_L_render, ?_⟩
  refine List.forall_mem_cons.mpr ⟨mz_L_renderOne, ?_⟩
  refine List.forall_mem_cons.mpr ⟨mz_L_needs, ?_⟩
  refine List.forall_mem_cons.mpr ⟨mz_L_mixes, ?_⟩
  refine List.forall_mem_cons.mpr ⟨mz_L_ofFrame, ?_⟩
  refine List.forall_mem_cons.mpr ⟨mz_L_kept, ?_⟩
  refine List.forall_mem_cons.mpr ⟨mz_L_count, ?_⟩
  refine List.forall_mem_cons.mpr ⟨mz_L_law, ?_⟩
  exact fun _ h => absurd h List.not_mem_nil
theorem mb_good : mb_Good := by
  intro y pc i h
  unfold mb_prog at h
  split at h
  · rename_i l hl
    exact mb_all_good l (List.mem_of_getElem? hl) pc i h
  · cases h
