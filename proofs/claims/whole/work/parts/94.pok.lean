/-! the program fits the tables -/
def mb_Rz (l : Launch) (D : va_G) (cT : Nat → ClassId) (s0 : State) (c : List (Nat × mb_I)) (q : MethodName × ByteArray × Nat × Option FieldType × List (Nat × Nat × Nat × Nat)) : Prop := ∀ pc i, mb_look c pc = some i → mb_Snd l D cT s0 mb_mt q.1.cls q.1.name q.2.1 q.2.2.1 q.2.2.2.1 q.2.2.2.2 pc i
def mb_Al (R : List (Nat × mb_I) → MethodName × ByteArray × Nat × Option FieldType × List (Nat × Nat × Nat × Nat) → Prop) (cs : List (List (Nat × mb_I))) (qs : mb_M) : Prop := ∀ (y : Nat) (c : List (Nat × mb_I)) (q : MethodName × ByteArray × Nat × Option FieldType × List (Nat × Nat × Nat × Nat)), cs[y]? = some c → qs[y]? = some q → R c q
theorem mb_Al_nil {R : List (Nat × mb_I) → MethodName × ByteArray × Nat × Option FieldType × List (Nat × Nat × Nat × Nat) → Prop} : mb_Al R [] [] := fun y c q h _ => by cases y <;> cases h
theorem mb_Al_cons {R : List (Nat × mb_I) → MethodName × ByteArray × Nat × Option FieldType × List (Nat × Nat × Nat × Nat) → Prop} {c : List (Nat × mb_I)} {q : MethodName × ByteArray × Nat × Option FieldType × List (Nat × Nat × Nat × Nat)} {cs : List (List (Nat × mb_I))} {qs : mb_M} (h : R c q) (t : mb_Al R cs qs) : mb_Al R (c :: cs) (q :: qs) := by
  intro y c' q' h1 h2
  cases y with
  | zero => cases h1; cases h2; exact h
  | succ y => exact t y c' q' h1 h2
theorem mb_zrows {l : Launch} {D : va_G} {cT : Nat → ClassId} {s0 : State} {args0 : Array Value} (hX : mb_Fx l D cT s0 args0) : mb_Al (mb_Rz l D cT s0) mb_codes mb_mt := by
  unfold mb_codes mb_mt
  refine mb_Al_cons (show mb_Rz l D cT s0 _ _ from mr_X0_init hX) ?_
  refine mb_Al_cons (show mb_Rz l D cT s0 _ _ from mr_X0_addVersion hX) ?_
  refine mb_Al_cons (show mb_Rz l D cT s0 _ _ from mr_X0_versionAt hX) ?_
  refine mb_Al_cons (show mb_Rz l D cT s0 _ _ from mr_X0_looksAlike hX) ?_
  refine mb_Al_cons (show mb_Rz l D cT s0 _ _ from mr_X1_init hX) ?_
  refine mb_Al_cons (show mb_Rz l D cT s0 _ _ from mr_X1_covers hX) ?_
  refine mb_Al_cons (show mb_Rz l D cT s0 _ _ from mr_X2_init hX) ?_
  refine mb_Al_cons (show mb_Rz l D cT s0 _ _ from mr_X2_keysAhead hX) ?_
  refine mb_Al_cons (show mb_Rz l D cT s0 _ _ from mr_X2_standsAt hX) ?_
  refine mb_Al_cons (show mb_Rz l D cT s0 _ _ from mr_X2_hasRoomFor hX) ?_
  refine mb_Al_cons (show mb_Rz l D cT s0 _ _ from mr_X2_put hX) ?_
  refine mb_Al_cons (show mb_Rz l D cT s0 _ _ from mr_X2_take hX) ?_
  refine mb_Al_cons (show mb_Rz l D cT s0 _ _ from mr_X2_moveKey hX) ?_
  refine mb_Al_cons (show mb_Rz l D cT s0 _ _ from mr_X2_valueAt hX) ?_
  refine mb_Al_cons (show mb_Rz l D cT s0 _ _ from mr_X2_valueAhead hX) ?_
  refine mb_Al_cons (show mb_Rz l D cT s0 _ _ from mr_X2_copy hX) ?_
  refine mb_Al_cons (show mb_Rz l D cT s0 _ _ from mr_X3_init hX) ?_
  refine mb_Al_cons (show mb_Rz l D cT s0 _ _ from mr_X3_versionOf hX) ?_
  refine mb_Al_cons (show mb_Rz l D cT s0 _ _ from mr_X3_keepVersion hX) ?_
  refine mb_Al_cons (show mb_Rz l D cT s0 _ _ from mr_X4_init hX) ?_
  refine mb_Al_cons (show mb_Rz l D cT s0 _ _ from mr_X4_followCut hX) ?_
  refine mb_Al_cons (show mb_Rz l D cT s0 _ _ from mr_X5_init hX) ?_
  refine mb_Al_cons (show mb_Rz l D cT s0 _ _ from mr_X5_hasBone hX) ?_
  refine mb_Al_cons (show mb_Rz l D cT s0 _ _ from mr_X5_curveOf hX) ?_
  refine mb_Al_cons (show mb_Rz l D cT s0 _ _ from mr_X5_addBone hX) ?_
  refine mb_Al_cons (show mb_Rz l D cT s0 _ _ from mr_X5_append hX) ?_
  refine mb_Al_cons (show mb_Rz l D cT s0 _ _ from mr_X5_ownValue hX) ?_
  refine mb_Al_cons (show mb_Rz l D cT s0 _ _ from mr_X5_poseUpwards hX) ?_
  refine mb_Al_cons (show mb_Rz l D cT s0 _ _ from mr_X5_poseAt hX) ?_
  refine mb_Al_cons (show mb_Rz l D cT s0 _ _ from mr_X5_looksLike hX) ?_
  refine mb_Al_cons (show mb_Rz l D cT s0 _ _ from mr_X5_versionOfIt hX) ?_
  refine mb_Al_cons (show mb_Rz l D cT s0 _ _ from mr_X5_fixPoses hX) ?_
  refine mb_Al_cons (show mb_Rz l D cT s0 _ _ from mr_X6_init hX) ?_
  refine mb_Al_cons (show mb_Rz l D cT s0 _ _ from mr_X6_hasFrame hX) ?_
  refine mb_Al_cons (show mb_Rz l D cT s0 _ _ from mr_X6_frameAt hX) ?_
  refine mb_Al_cons (show mb_Rz l D cT s0 _ _ from mr_X6_castingOf hX) ?_
  refine mb_Al_cons (show mb_Rz l D cT s0 _ _ from mr_X6_setCasting hX) ?_
  refine mb_Al_cons (show mb_Rz l D cT s0 _ _ from mr_X6_removeFrames hX) ?_
  refine mb_Al_cons (show mb_Rz l D cT s0 _ _ from mr_X6_follows hX) ?_
  refine mb_Al_cons (show mb_Rz l D cT s0 _ _ from mr_X6_keepsUnlikeVersions hX) ?_
  refine mb_Al_cons (show mb_Rz l D cT s0 _ _ from mr_X7_init hX) ?_
  refine mb_Al_cons (show mb_Rz l D cT s0 _ _ from mr_X7_asset hX) ?_
  refine mb_Al_cons (show mb_Rz l D cT s0 _ _ from mr_X7_bone hX) ?_
  refine mb_Al_cons (show mb_Rz l D cT s0 _ _ from mr_X7_key hX) ?_
  refine mb_Al_cons (show mb_Rz l D cT s0 _ _ from mr_X7_unkey hX) ?_
  refine mb_Al_cons (show mb_Rz l D cT s0 _ _ from mr_X7_publish hX) ?_
  refine mb_Al_cons (show mb_Rz l D cT s0 _ _ from mr_X7_pose hX) ?_
  refine mb_Al_cons (show mb_Rz l D cT s0 _ _ from mr_X7_poseAnew hX) ?_
  refine mb_Al_cons (show mb_Rz l D cT s0 _ _ from mr_X7_ofAsset hX) ?_
  refine mb_Al_cons (show mb_Rz l D cT s0 _ _ from mr_X7_scene hX) ?_
  refine mb_Al_cons (show mb_Rz l D cT s0 _ _ from mr_X7_cast hX) ?_
  refine mb_Al_cons (show mb_Rz l D cT s0 _ _ from mr_X7_cut hX) ?_
  refine mb_Al_cons (show mb_Rz l D cT s0 _ _ from mr_X7_note hX) ?_
  refine mb_Al_cons (show mb_Rz l D cT s0 _ _ from mr_X7_settle hX) ?_
  refine mb_Al_cons (show mb_Rz l D cT s0 _ _ from mr_X7_ofNote hX) ?_
  refine mb_Al_cons (show mb_Rz l D cT s0 _ _ from mr_X7_render hX) ?_
  refine mb_Al_cons (show mb_Rz l D cT s0 _ _ from mr_X7_renderOne hX) ?_
  refine mb_Al_cons (show mb_Rz l D cT s0 _ _ from mr_X7_needs hX) ?_
  refine mb_Al_cons (show mb_Rz l D cT s0 _ _ from mr_X7_mixes hX) ?_
  refine mb_Al_cons (show mb_Rz l D cT s0 _ _ from mr_X7_ofFrame hX) ?_
  refine mb_Al_cons (show mb_Rz l D cT s0 _ _ from mr_X7_kept hX) ?_
  refine mb_Al_cons (show mb_Rz l D cT s0 _ _ from mr_X7_count hX) ?_
  refine mb_Al_cons (show mb_Rz l D cT s0 _ _ from mr_X7_assetAt hX) ?_
  refine mb_Al_cons (show mb_Rz l D cT s0 _ _ from mr_X7_sceneAt hX) ?_
  refine mb_Al_cons (show mb_Rz l D cT s0 _ _ from mr_X7_noteAt hX) ?_
  refine mb_Al_cons (show mb_Rz l D cT s0 _ _ from mr_X7_draftCurve hX) ?_
  refine mb_Al_cons (show mb_Rz l D cT s0 _ _ from mr_X7_rigOf hX) ?_
  refine mb_Al_cons (show mb_Rz l D cT s0 _ _ from mr_X7_isCurveFrame hX) ?_
  refine mb_Al_cons (show mb_Rz l D cT s0 _ _ from mr_X7_canBeShown hX) ?_
  refine mb_Al_cons (show mb_Rz l D cT s0 _ _ from mr_X7_seenVersion hX) ?_
  refine mb_Al_cons (show mb_Rz l D cT s0 _ _ from mr_X7_seenRig hX) ?_
  refine mb_Al_cons (show mb_Rz l D cT s0 _ _ from mr_X7_bonesSeen hX) ?_
  refine mb_Al_cons (show mb_Rz l D cT s0 _ _ from mr_X7_keepVersions hX) ?_
  refine mb_Al_cons (show mb_Rz l D cT s0 _ _ from mr_X7_countRendering hX) ?_
  refine mb_Al_cons (show mb_Rz l D cT s0 _ _ from mr_X7_isStale hX) ?_
  refine mb_Al_cons (show mb_Rz l D cT s0 _ _ from mr_X7_staleFrames hX) ?_
  refine mb_Al_cons (show mb_Rz l D cT s0 _ _ from mr_X7_moveNotes hX) ?_
  refine mb_Al_cons (show mb_Rz l D cT s0 _ _ from mr_X7_openNotesOfScene hX) ?_
  refine mb_Al_cons (show mb_Rz l D cT s0 _ _ from mr_X7_openNotesOfFrame hX) ?_
  refine mb_Al_cons (show mb_Rz l D cT s0 _ _ from mr_X7_scenesThatCast hX) ?_
  refine mb_Al_cons (show mb_Rz l D cT s0 _ _ from mr_X7_allVersions hX) ?_
  refine mb_Al_cons (show mb_Rz l D cT s0 _ _ from mr_X7_allFrames hX) ?_
  refine mb_Al_cons (show mb_Rz l D cT s0 _ _ from mr_X7_allStaleFrames hX) ?_
  refine mb_Al_cons (show mb_Rz l D cT s0 _ _ from mr_X7_allOpenNotes hX) ?_
  refine mb_Al_cons (show mb_Rz l D cT s0 _ _ from mr_X8_init hX) ?_
  refine mb_Al_cons (show mb_Rz l D cT s0 _ _ from mr_X8_thrown hX) ?_
  refine mb_Al_cons (show mb_Rz l D cT s0 _ _ from mr_X8_holds hX) ?_
  refine mb_Al_cons (show mb_Rz l D cT s0 _ _ from mr_X8_isIn hX) ?_
  refine mb_Al_cons (show mb_Rz l D cT s0 _ _ from mr_X8_isAsset hX) ?_
  refine mb_Al_cons (show mb_Rz l D cT s0 _ _ from mr_X8_isScene hX) ?_
  refine mb_Al_cons (show mb_Rz l D cT s0 _ _ from mr_X8_isFrame hX) ?_
  refine mb_Al_cons (show mb_Rz l D cT s0 _ _ from mr_X8_rigOf hX) ?_
  refine mb_Al_cons (show mb_Rz l D cT s0 _ _ from mr_X8_isRig hX) ?_
  refine mb_Al_cons (show mb_Rz l D cT s0 _ _ from mr_X8_isBone hX) ?_
  refine mb_Al_cons (show mb_Rz l D cT s0 _ _ from mr_X8_keyAt hX) ?_
  refine mb_Al_cons (show mb_Rz l D cT s0 _ _ from mr_X8_isKeyAt hX) ?_
  refine mb_Al_cons (show mb_Rz l D cT s0 _ _ from mr_X8_down hX) ?_
  refine mb_Al_cons (show mb_Rz l D cT s0 _ _ from mr_X8_valueAt hX) ?_
  refine mb_Al_cons (show mb_Rz l D cT s0 _ _ from mr_X8_poseOf hX) ?_
  refine mb_Al_cons (show mb_Rz l D cT s0 _ _ from mr_X8_asset hX) ?_
  refine mb_Al_cons (show mb_Rz l D cT s0 _ _ from mr_X8_bone hX) ?_
  refine mb_Al_cons (show mb_Rz l D cT s0 _ _ from mr_X8_laysKey hX) ?_
  refine mb_Al_cons (show mb_Rz l D cT s0 _ _ from mr_X8_copiesKey hX) ?_
  refine mb_Al_cons (show mb_Rz l D cT s0 _ _ from mr_X8_key hX) ?_
  refine mb_Al_cons (show mb_Rz l D cT s0 _ _ from mr_X8_unkey hX) ?_
  refine mb_Al_cons (show mb_Rz l D cT s0 _ _ from mr_X8_publish hX) ?_
  refine mb_Al_cons (show mb_Rz l D cT s0 _ _ from mr_X8_poses hX) ?_
  refine mb_Al_cons (show mb_Rz l D cT s0 _ _ from mr_X8_pose hX) ?_
  refine mb_Al_cons (show mb_Rz l D cT s0 _ _ from mr_X8_poseAnew hX) ?_
  refine mb_Al_cons (show mb_Rz l D cT s0 _ _ from mr_X8_castsOf hX) ?_
  refine mb_Al_cons (show mb_Rz l D cT s0 _ _ from mr_X8_ofAsset hX) ?_
  refine mb_Al_cons (show mb_Rz l D cT s0 _ _ from mr_X8_scene hX) ?_
  refine mb_Al_cons (show mb_Rz l D cT s0 _ _ from mr_X8_cast hX) ?_
  refine mb_Al_cons (show mb_Rz l D cT s0 _ _ from mr_X8_goesTo hX) ?_
  refine mb_Al_cons (show mb_Rz l D cT s0 _ _ from mr_X8_carries hX) ?_
  refine mb_Al_cons (show mb_Rz l D cT s0 _ _ from mr_X8_cut hX) ?_
  refine mb_Al_cons (show mb_Rz l D cT s0 _ _ from mr_X8_note hX) ?_
  refine mb_Al_cons (show mb_Rz l D cT s0 _ _ from mr_X8_unsettled hX) ?_
  refine mb_Al_cons (show mb_Rz l D cT s0 _ _ from mr_X8_settle hX) ?_
  refine mb_Al_cons (show mb_Rz l D cT s0 _ _ from mr_X8_ofNote hX) ?_
  refine mb_Al_cons (show mb_Rz l D cT s0 _ _ from mr_X8_seenVersion hX) ?_
  refine mb_Al_cons (show mb_Rz l D cT s0 _ _ from mr_X8_seenBones hX) ?_
  refine mb_Al_cons (show mb_Rz l D cT s0 _ _ from mr_X8_isAsKept hX) ?_
  refine mb_Al_cons (show mb_Rz l D cT s0 _ _ from mr_X8_isNeeded hX) ?_
  refine mb_Al_cons (show mb_Rz l D cT s0 _ _ from mr_X8_keeps hX) ?_
  refine mb_Al_cons (show mb_Rz l D cT s0 _ _ from mr_X8_renders hX) ?_
  refine mb_Al_cons (show mb_Rz l D cT s0 _ _ from mr_X8_render hX) ?_
  refine mb_Al_cons (show mb_Rz l D cT s0 _ _ from mr_X8_renderOne hX) ?_
  refine mb_Al_cons (show mb_Rz l D cT s0 _ _ from mr_X8_needed hX) ?_
  refine mb_Al_cons (show mb_Rz l D cT s0 _ _ from mr_X8_needs hX) ?_
  refine mb_Al_cons (show mb_Rz l D cT s0 _ _ from mr_X8_isMixed hX) ?_
  refine mb_Al_cons (show mb_Rz l D cT s0 _ _ from mr_X8_mixed hX) ?_
  refine mb_Al_cons (show mb_Rz l D cT s0 _ _ from mr_X8_mixes hX) ?_
  refine mb_Al_cons (show mb_Rz l D cT s0 _ _ from mr_X8_bonesAt hX) ?_
  refine mb_Al_cons (show mb_Rz l D cT s0 _ _ from mr_X8_toldFrame hX) ?_
  refine mb_Al_cons (show mb_Rz l D cT s0 _ _ from mr_X8_ofFrame hX) ?_
  refine mb_Al_cons (show mb_Rz l D cT s0 _ _ from mr_X8_kept hX) ?_
  refine mb_Al_cons (show mb_Rz l D cT s0 _ _ from mr_X8_countOf hX) ?_
  refine mb_Al_cons (show mb_Rz l D cT s0 _ _ from mr_X8_count hX) ?_
  refine mb_Al_cons (show mb_Rz l D cT s0 _ _ from mr_J9_floorDiv_7cf53 hX) ?_
  refine mb_Al_cons (show mb_Rz l D cT s0 _ _ from mr_L_asset hX) ?_
  refine mb_Al_cons (show mb_Rz l D cT s0 _ _ from mr_L_bone hX) ?_
  refine mb_Al_cons (show mb_Rz l D cT s0 _ _ from mr_L_key hX) ?_
  refine mb_Al_cons (show mb_Rz l D cT s0 _ _ from mr_L_unkey hX) ?_
  refine mb_Al_cons (show mb_Rz l D cT s0 _ _ from mr_L_publish hX) ?_
  refine mb_Al_cons (show mb_Rz l D cT s0 _ _ from mr_L_pose hX) ?_
  refine mb_Al_cons (show mb_Rz l D cT s0 _ _ from mr_L_poseAnew hX) ?_
  refine mb_Al_cons (show mb_Rz l D cT s0 _ _ from mr_L_ofAsset hX) ?_
  refine mb_Al_cons (show mb_Rz l D cT s0 _ _ from mr_L_scene hX) ?_
  refine mb_Al_cons (show mb_Rz l D cT s0 _ _ from mr_L_cast hX) ?_
  refine mb_Al_cons (show mb_Rz l D cT s0 _ _ from mr_L_cut hX) ?_
  refine mb_Al_cons (show mb_Rz l D cT s0 _ _ from mr_L_note hX) ?_
  refine mb_Al_cons (show mb_Rz l D cT s0 _ _ from mr_L_settle hX) ?_
  refine mb_Al_cons (show mb_Rz l D cT s0 _ _ from mr_L_ofNote hX) ?_
  refine mb_Al_cons (show mb_Rz l D cT s0 _ _ from mr_L_render hX) ?_
  refine mb_Al_cons (show mb_Rz l D cT s0 _ _ from mr_L_renderOne hX) ?_
  refine mb_Al_cons (show mb_Rz l D cT s0 _ _ from mr_L_needs hX) ?_
  refine mb_Al_cons (show mb_Rz l D cT s0 _ _ from mr_L_mixes hX) ?_
  refine mb_Al_cons (show mb_Rz l D cT s0 _ _ from mr_L_ofFrame hX) ?_
  refine mb_Al_cons (show mb_Rz l D cT s0 _ _ from mr_L_kept hX) ?_
  refine mb_Al_cons (show mb_Rz l D cT s0 _ _ from mr_L_count hX) ?_
  refine mb_Al_cons (show mb_Rz l D cT s0 _ _ from mr_L_law hX) ?_
  exact mb_Al_nil
theorem mb_znl : (List.range 162).all (fun y => match mb_mt[y]? with | some q => mb_nl y == q.2.2.1 && plainName q.1.cls | none => false) = true := by decide +kernel
theorem mb_zpok {l : Launch} {D : va_G} {cT : Nat → ClassId} {s0 : State} {args0 : Array Value} (hX : mb_Fx l D cT s0 args0) : mb_Pok l D cT s0 mb_mt mb_prog mb_nl := by
  refine ⟨fun y pc i h => ⟨(mb_good y pc i h).1, fun q hq => ?_⟩, fun y q hq => ?_⟩
  · unfold mb_prog at h
    split at h
    · rename_i c hc
      exact mb_zrows hX y c q hc hq pc i h
    · cases h
  · have hl : mb_mt.length = 162 := by decide +kernel
    have h1 : y < 162 := by rw [← hl]; exact (List.getElem?_eq_some_iff.mp hq).1
    have h2 := List.all_eq_true.mp mb_znl y (List.mem_range.mpr h1)
    rw [hq] at h2
    simpa using h2
