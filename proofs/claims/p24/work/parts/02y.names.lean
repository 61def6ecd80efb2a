/-! ===== BEGIN printed: names, fields, word lists, decode rows ===== -/
def RX0 : String := "PegbarBarn$Asset"
def TX0 : u_T := fun k => match k with
  | 0 => ("PegbarBarn$Asset", "draft", "LPegbarBarn$Rig;", true)
  | 1 => ("PegbarBarn$Asset", "versions", "[LPegbarBarn$Rig;", true)
  | _ => ("PegbarBarn$Asset", "versionCount", "I", false)
def tyX0 : Nat → FieldType := fun k => match k with
  | 0 => .object "PegbarBarn$Rig"
  | 1 => .array (.object "PegbarBarn$Rig")
  | _ => .int
abbrev wsX00 : List Cond := u_ws RX0 TX0 3
theorem nmX0 : ∀ a, a < 3 → ∀ b, b < 3 → a ≠ b → (TX0 a).2.1 ≠ (TX0 b).2.1 := by decide +kernel
theorem tyX0_ok : ∀ k, k < 3 → parseFieldDescriptor (TX0 k).2.2.1 = some (tyX0 k) := by decide +kernel
abbrev cX0_init : ByteArray := prog_2_method_1_code
def yX0_init : MethodName := ⟨RX0, "<init>", "()V"⟩
abbrev cX0_addVersion : ByteArray := prog_2_method_2_code
def yX0_addVersion : MethodName := ⟨RX0, "addVersion", "()I"⟩
abbrev cX0_versionAt : ByteArray := prog_2_method_3_code
def yX0_versionAt : MethodName := ⟨RX0, "versionAt", "(I)LPegbarBarn$Rig;"⟩
abbrev cX0_looksAlike : ByteArray := prog_2_method_4_code
def yX0_looksAlike : MethodName := ⟨RX0, "looksAlike", "(III)Z"⟩
def RX1 : String := "PegbarBarn$Casting"
def TX1 : u_T := fun k => match k with
  | 0 => ("PegbarBarn$Casting", "version", "I", false)
  | 1 => ("PegbarBarn$Casting", "from", "I", false)
  | _ => ("PegbarBarn$Casting", "to", "I", false)
def tyX1 : Nat → FieldType := fun k => match k with
  | 0 => .int
  | 1 => .int
  | _ => .int
abbrev wsX10 : List Cond := u_ws RX1 TX1 3
theorem nmX1 : ∀ a, a < 3 → ∀ b, b < 3 → a ≠ b → (TX1 a).2.1 ≠ (TX1 b).2.1 := by decide +kernel
theorem tyX1_ok : ∀ k, k < 3 → parseFieldDescriptor (TX1 k).2.2.1 = some (tyX1 k) := by decide +kernel
abbrev cX1_init : ByteArray := prog_3_method_1_code
def yX1_init : MethodName := ⟨RX1, "<init>", "()V"⟩
abbrev cX1_covers : ByteArray := prog_3_method_2_code
def yX1_covers : MethodName := ⟨RX1, "covers", "(I)Z"⟩
def RX2 : String := "PegbarBarn$Curve"
def TX2 : u_T := fun k => match k with
  | 0 => ("PegbarBarn$Curve", "frames", "[I", true)
  | 1 => ("PegbarBarn$Curve", "values", "[I", true)
  | 2 => ("PegbarBarn$Curve", "ways", "[I", true)
  | _ => ("PegbarBarn$Curve", "size", "I", false)
def tyX2 : Nat → FieldType := fun k => match k with
  | 0 => .array .int
  | 1 => .array .int
  | 2 => .array .int
  | _ => .int
abbrev wsX20 : List Cond := u_ws RX2 TX2 4
theorem nmX2 : ∀ a, a < 4 → ∀ b, b < 4 → a ≠ b → (TX2 a).2.1 ≠ (TX2 b).2.1 := by decide +kernel
theorem tyX2_ok : ∀ k, k < 4 → parseFieldDescriptor (TX2 k).2.2.1 = some (tyX2 k) := by decide +kernel
abbrev cX2_init : ByteArray := prog_4_method_1_code
def yX2_init : MethodName := ⟨RX2, "<init>", "()V"⟩
abbrev cX2_keysAhead : ByteArray := prog_4_method_2_code
def yX2_keysAhead : MethodName := ⟨RX2, "keysAhead", "(I)I"⟩
abbrev cX2_standsAt : ByteArray := prog_4_method_3_code
def yX2_standsAt : MethodName := ⟨RX2, "standsAt", "(II)Z"⟩
abbrev cX2_hasRoomFor : ByteArray := prog_4_method_4_code
def yX2_hasRoomFor : MethodName := ⟨RX2, "hasRoomFor", "(I)Z"⟩
abbrev cX2_put : ByteArray := prog_4_method_5_code
def yX2_put : MethodName := ⟨RX2, "put", "(III)V"⟩
abbrev cX2_take : ByteArray := prog_4_method_6_code
def yX2_take : MethodName := ⟨RX2, "take", "(I)Z"⟩
abbrev cX2_moveKey : ByteArray := prog_4_method_7_code
def yX2_moveKey : MethodName := ⟨RX2, "moveKey", "(II)V"⟩
abbrev cX2_valueAt : ByteArray := prog_4_method_8_code
def yX2_valueAt : MethodName := ⟨RX2, "valueAt", "(I)I"⟩
abbrev cX2_valueAhead : ByteArray := prog_4_method_9_code
def yX2_valueAhead : MethodName := ⟨RX2, "valueAhead", "(II)I"⟩
abbrev cX2_copy : ByteArray := prog_4_method_10_code
def yX2_copy : MethodName := ⟨RX2, "copy", "()LPegbarBarn$Curve;"⟩
def RX3 : String := "PegbarBarn$Frame"
def TX3 : u_T := fun k => match k with
  | 0 => ("PegbarBarn$Frame", "shown", "I", true)
  | 1 => ("PegbarBarn$Frame", "versions", "[I", true)
  | _ => ("PegbarBarn$Frame", "times", "I", false)
def tyX3 : Nat → FieldType := fun k => match k with
  | 0 => .int
  | 1 => .array .int
  | _ => .int
abbrev wsX30 : List Cond := u_ws RX3 TX3 3
theorem nmX3 : ∀ a, a < 3 → ∀ b, b < 3 → a ≠ b → (TX3 a).2.1 ≠ (TX3 b).2.1 := by decide +kernel
theorem tyX3_ok : ∀ k, k < 3 → parseFieldDescriptor (TX3 k).2.2.1 = some (tyX3 k) := by decide +kernel
abbrev cX3_init : ByteArray := prog_5_method_1_code
def yX3_init : MethodName := ⟨RX3, "<init>", "(I)V"⟩
abbrev cX3_versionOf : ByteArray := prog_5_method_2_code
def yX3_versionOf : MethodName := ⟨RX3, "versionOf", "(I)I"⟩
abbrev cX3_keepVersion : ByteArray := prog_5_method_3_code
def yX3_keepVersion : MethodName := ⟨RX3, "keepVersion", "(II)V"⟩
def RX4 : String := "PegbarBarn$Note"
def TX4 : u_T := fun k => match k with
  | 0 => ("PegbarBarn$Note", "scene", "I", true)
  | 1 => ("PegbarBarn$Note", "frame", "I", false)
  | 2 => ("PegbarBarn$Note", "carried", "I", false)
  | _ => ("PegbarBarn$Note", "settled", "Z", false)
def tyX4 : Nat → FieldType := fun k => match k with
  | 0 => .int
  | 1 => .int
  | 2 => .int
  | _ => .boolean
abbrev wsX40 : List Cond := u_ws RX4 TX4 4
theorem nmX4 : ∀ a, a < 4 → ∀ b, b < 4 → a ≠ b → (TX4 a).2.1 ≠ (TX4 b).2.1 := by decide +kernel
theorem tyX4_ok : ∀ k, k < 4 → parseFieldDescriptor (TX4 k).2.2.1 = some (tyX4 k) := by decide +kernel
abbrev cX4_init : ByteArray := prog_6_method_1_code
def yX4_init : MethodName := ⟨RX4, "<init>", "(II)V"⟩
abbrev cX4_followCut : ByteArray := prog_6_method_2_code
def yX4_followCut : MethodName := ⟨RX4, "followCut", "(III)V"⟩
def RX5 : String := "PegbarBarn$Rig"
def TX5 : u_T := fun k => match k with
  | 0 => ("PegbarBarn$Rig", "parents", "[I", true)
  | 1 => ("PegbarBarn$Rig", "curves", "[LPegbarBarn$Curve;", true)
  | 2 => ("PegbarBarn$Rig", "size", "I", false)
  | _ => ("PegbarBarn$Rig", "poses", "[I", false)
def tyX5 : Nat → FieldType := fun k => match k with
  | 0 => .array .int
  | 1 => .array (.object "PegbarBarn$Curve")
  | 2 => .int
  | _ => .array .int
abbrev wsX50 : List Cond := u_ws RX5 TX5 4
theorem nmX5 : ∀ a, a < 4 → ∀ b, b < 4 → a ≠ b → (TX5 a).2.1 ≠ (TX5 b).2.1 := by decide +kernel
theorem tyX5_ok : ∀ k, k < 4 → parseFieldDescriptor (TX5 k).2.2.1 = some (tyX5 k) := by decide +kernel
abbrev cX5_init : ByteArray := prog_7_method_1_code
def yX5_init : MethodName := ⟨RX5, "<init>", "()V"⟩
abbrev cX5_hasBone : ByteArray := prog_7_method_2_code
def yX5_hasBone : MethodName := ⟨RX5, "hasBone", "(I)Z"⟩
abbrev cX5_curveOf : ByteArray := prog_7_method_3_code
def yX5_curveOf : MethodName := ⟨RX5, "curveOf", "(I)LPegbarBarn$Curve;"⟩
abbrev cX5_addBone : ByteArray := prog_7_method_4_code
def yX5_addBone : MethodName := ⟨RX5, "addBone", "(I)I"⟩
abbrev cX5_append : ByteArray := prog_7_method_5_code
def yX5_append : MethodName := ⟨RX5, "append", "(ILPegbarBarn$Curve;)I"⟩
abbrev cX5_ownValue : ByteArray := prog_7_method_6_code
def yX5_ownValue : MethodName := ⟨RX5, "ownValue", "(II)I"⟩
abbrev cX5_poseUpwards : ByteArray := prog_7_method_7_code
def yX5_poseUpwards : MethodName := ⟨RX5, "poseUpwards", "(II)I"⟩
abbrev cX5_poseAt : ByteArray := prog_7_method_8_code
def yX5_poseAt : MethodName := ⟨RX5, "poseAt", "(II)I"⟩
abbrev cX5_looksLike : ByteArray := prog_7_method_9_code
def yX5_looksLike : MethodName := ⟨RX5, "looksLike", "(LPegbarBarn$Rig;I)Z"⟩
abbrev cX5_versionOfIt : ByteArray := prog_7_method_10_code
def yX5_versionOfIt : MethodName := ⟨RX5, "versionOfIt", "()LPegbarBarn$Rig;"⟩
abbrev cX5_fixPoses : ByteArray := prog_7_method_11_code
def yX5_fixPoses : MethodName := ⟨RX5, "fixPoses", "()V"⟩
def RX6 : String := "PegbarBarn$Scene"
def TX6 : u_T := fun k => match k with
  | 0 => ("PegbarBarn$Scene", "frames", "[LPegbarBarn$Frame;", true)
  | 1 => ("PegbarBarn$Scene", "castings", "[LPegbarBarn$Casting;", true)
  | 2 => ("PegbarBarn$Scene", "size", "I", false)
  | _ => ("PegbarBarn$Scene", "castCount", "I", false)
def tyX6 : Nat → FieldType := fun k => match k with
  | 0 => .array (.object "PegbarBarn$Frame")
  | 1 => .array (.object "PegbarBarn$Casting")
  | 2 => .int
  | _ => .int
abbrev wsX60 : List Cond := u_ws RX6 TX6 4
theorem nmX6 : ∀ a, a < 4 → ∀ b, b < 4 → a ≠ b → (TX6 a).2.1 ≠ (TX6 b).2.1 := by decide +kernel
theorem tyX6_ok : ∀ k, k < 4 → parseFieldDescriptor (TX6 k).2.2.1 = some (tyX6 k) := by decide +kernel
abbrev cX6_init : ByteArray := prog_8_method_1_code
def yX6_init : MethodName := ⟨RX6, "<init>", "(I)V"⟩
abbrev cX6_hasFrame : ByteArray := prog_8_method_2_code
def yX6_hasFrame : MethodName := ⟨RX6, "hasFrame", "(I)Z"⟩
abbrev cX6_frameAt : ByteArray := prog_8_method_3_code
def yX6_frameAt : MethodName := ⟨RX6, "frameAt", "(I)LPegbarBarn$Frame;"⟩
abbrev cX6_castingOf : ByteArray := prog_8_method_4_code
def yX6_castingOf : MethodName := ⟨RX6, "castingOf", "(I)LPegbarBarn$Casting;"⟩
abbrev cX6_setCasting : ByteArray := prog_8_method_5_code
def yX6_setCasting : MethodName := ⟨RX6, "setCasting", "(IIII)V"⟩
abbrev cX6_removeFrames : ByteArray := prog_8_method_6_code
def yX6_removeFrames : MethodName := ⟨RX6, "removeFrames", "(II)V"⟩
abbrev cX6_follows : ByteArray := prog_8_method_7_code
def yX6_follows : MethodName := ⟨RX6, "follows", "(I)Z"⟩
abbrev cX6_keepsUnlikeVersions : ByteArray := prog_8_method_8_code
def yX6_keepsUnlikeVersions : MethodName := ⟨RX6, "keepsUnlikeVersions", "(I)Z"⟩
def RX7 : String := "PegbarBarn"
def TX7 : u_T := fun k => match k with
  | 0 => ("PegbarBarn", "assets", "[LPegbarBarn$Asset;", true)
  | 1 => ("PegbarBarn", "scenes", "[LPegbarBarn$Scene;", true)
  | 2 => ("PegbarBarn", "notes", "[LPegbarBarn$Note;", true)
  | 3 => ("PegbarBarn", "assetCount", "I", false)
  | 4 => ("PegbarBarn", "sceneCount", "I", false)
  | 5 => ("PegbarBarn", "noteCount", "I", false)
  | _ => ("PegbarBarn", "renderings", "I", false)
def tyX7 : Nat → FieldType := fun k => match k with
  | 0 => .array (.object "PegbarBarn$Asset")
  | 1 => .array (.object "PegbarBarn$Scene")
  | 2 => .array (.object "PegbarBarn$Note")
  | 3 => .int
  | 4 => .int
  | 5 => .int
  | _ => .int
abbrev wsX70 : List Cond := u_ws RX7 TX7 7
theorem nmX7 : ∀ a, a < 7 → ∀ b, b < 7 → a ≠ b → (TX7 a).2.1 ≠ (TX7 b).2.1 := by decide +kernel
theorem tyX7_ok : ∀ k, k < 7 → parseFieldDescriptor (TX7 k).2.2.1 = some (tyX7 k) := by decide +kernel
abbrev cX7_init : ByteArray := prog_1_method_1_code
def yX7_init : MethodName := ⟨RX7, "<init>", "()V"⟩
abbrev cX7_asset : ByteArray := prog_1_method_2_code
def yX7_asset : MethodName := ⟨RX7, "asset", "()I"⟩
abbrev cX7_bone : ByteArray := prog_1_method_3_code
def yX7_bone : MethodName := ⟨RX7, "bone", "(II)I"⟩
abbrev cX7_key : ByteArray := prog_1_method_4_code
def yX7_key : MethodName := ⟨RX7, "key", "(IIIII)I"⟩
abbrev cX7_unkey : ByteArray := prog_1_method_5_code
def yX7_unkey : MethodName := ⟨RX7, "unkey", "(III)Z"⟩
abbrev cX7_publish : ByteArray := prog_1_method_6_code
def yX7_publish : MethodName := ⟨RX7, "publish", "(I)I"⟩
abbrev cX7_pose : ByteArray := prog_1_method_7_code
def yX7_pose : MethodName := ⟨RX7, "pose", "(IIII)I"⟩
abbrev cX7_poseAnew : ByteArray := prog_1_method_8_code
def yX7_poseAnew : MethodName := ⟨RX7, "poseAnew", "(IIII)I"⟩
abbrev cX7_ofAsset : ByteArray := prog_1_method_9_code
def yX7_ofAsset : MethodName := ⟨RX7, "ofAsset", "(II)I"⟩
abbrev cX7_scene : ByteArray := prog_1_method_10_code
def yX7_scene : MethodName := ⟨RX7, "scene", "(I)I"⟩
abbrev cX7_cast : ByteArray := prog_1_method_11_code
def yX7_cast : MethodName := ⟨RX7, "cast", "(IIIII)I"⟩
abbrev cX7_cut : ByteArray := prog_1_method_12_code
def yX7_cut : MethodName := ⟨RX7, "cut", "(III)I"⟩
abbrev cX7_note : ByteArray := prog_1_method_13_code
def yX7_note : MethodName := ⟨RX7, "note", "(II)I"⟩
abbrev cX7_settle : ByteArray := prog_1_method_14_code
def yX7_settle : MethodName := ⟨RX7, "settle", "(I)I"⟩
abbrev cX7_ofNote : ByteArray := prog_1_method_15_code
def yX7_ofNote : MethodName := ⟨RX7, "ofNote", "(II)I"⟩
abbrev cX7_render : ByteArray := prog_1_method_16_code
def yX7_render : MethodName := ⟨RX7, "render", "(I)I"⟩
abbrev cX7_renderOne : ByteArray := prog_1_method_17_code
def yX7_renderOne : MethodName := ⟨RX7, "renderOne", "(II)Z"⟩
abbrev cX7_needs : ByteArray := prog_1_method_18_code
def yX7_needs : MethodName := ⟨RX7, "needs", "(I)I"⟩
abbrev cX7_mixes : ByteArray := prog_1_method_19_code
def yX7_mixes : MethodName := ⟨RX7, "mixes", "(I)I"⟩
abbrev cX7_ofFrame : ByteArray := prog_1_method_20_code
def yX7_ofFrame : MethodName := ⟨RX7, "ofFrame", "(III)I"⟩
abbrev cX7_kept : ByteArray := prog_1_method_21_code
def yX7_kept : MethodName := ⟨RX7, "kept", "(III)I"⟩
abbrev cX7_count : ByteArray := prog_1_method_22_code
def yX7_count : MethodName := ⟨RX7, "count", "(I)I"⟩
abbrev cX7_assetAt : ByteArray := prog_1_method_23_code
def yX7_assetAt : MethodName := ⟨RX7, "assetAt", "(I)LPegbarBarn$Asset;"⟩
abbrev cX7_sceneAt : ByteArray := prog_1_method_24_code
def yX7_sceneAt : MethodName := ⟨RX7, "sceneAt", "(I)LPegbarBarn$Scene;"⟩
abbrev cX7_noteAt : ByteArray := prog_1_method_25_code
def yX7_noteAt : MethodName := ⟨RX7, "noteAt", "(I)LPegbarBarn$Note;"⟩
abbrev cX7_draftCurve : ByteArray := prog_1_method_26_code
def yX7_draftCurve : MethodName := ⟨RX7, "draftCurve", "(II)LPegbarBarn$Curve;"⟩
abbrev cX7_rigOf : ByteArray := prog_1_method_27_code
def yX7_rigOf : MethodName := ⟨RX7, "rigOf", "(II)LPegbarBarn$Rig;"⟩
abbrev cX7_isCurveFrame : ByteArray := prog_1_method_28_code
def yX7_isCurveFrame : MethodName := ⟨RX7, "isCurveFrame", "(I)Z"⟩
abbrev cX7_canBeShown : ByteArray := prog_1_method_29_code
def yX7_canBeShown : MethodName := ⟨RX7, "canBeShown", "(I)Z"⟩
abbrev cX7_seenVersion : ByteArray := prog_1_method_30_code
def yX7_seenVersion : MethodName := ⟨RX7, "seenVersion", "(LPegbarBarn$Scene;LPegbarBarn$Frame;I)I"⟩
abbrev cX7_seenRig : ByteArray := prog_1_method_31_code
def yX7_seenRig : MethodName := ⟨RX7, "seenRig", "(LPegbarBarn$Scene;LPegbarBarn$Frame;I)LPegbarBarn$Rig;"⟩
abbrev cX7_bonesSeen : ByteArray := prog_1_method_32_code
def yX7_bonesSeen : MethodName := ⟨RX7, "bonesSeen", "(LPegbarBarn$Scene;LPegbarBarn$Frame;)I"⟩
abbrev cX7_keepVersions : ByteArray := prog_1_method_33_code
def yX7_keepVersions : MethodName := ⟨RX7, "keepVersions", "(LPegbarBarn$Scene;LPegbarBarn$Frame;)V"⟩
abbrev cX7_countRendering : ByteArray := prog_1_method_34_code
def yX7_countRendering : MethodName := ⟨RX7, "countRendering", "(LPegbarBarn$Frame;)V"⟩
abbrev cX7_isStale : ByteArray := prog_1_method_35_code
def yX7_isStale : MethodName := ⟨RX7, "isStale", "(LPegbarBarn$Scene;LPegbarBarn$Frame;)Z"⟩
abbrev cX7_staleFrames : ByteArray := prog_1_method_36_code
def yX7_staleFrames : MethodName := ⟨RX7, "staleFrames", "(LPegbarBarn$Scene;)I"⟩
abbrev cX7_moveNotes : ByteArray := prog_1_method_37_code
def yX7_moveNotes : MethodName := ⟨RX7, "moveNotes", "(IIII)V"⟩
abbrev cX7_openNotesOfScene : ByteArray := prog_1_method_38_code
def yX7_openNotesOfScene : MethodName := ⟨RX7, "openNotesOfScene", "(I)I"⟩
abbrev cX7_openNotesOfFrame : ByteArray := prog_1_method_39_code
def yX7_openNotesOfFrame : MethodName := ⟨RX7, "openNotesOfFrame", "(II)I"⟩
abbrev cX7_scenesThatCast : ByteArray := prog_1_method_40_code
def yX7_scenesThatCast : MethodName := ⟨RX7, "scenesThatCast", "(I)I"⟩
abbrev cX7_allVersions : ByteArray := prog_1_method_41_code
def yX7_allVersions : MethodName := ⟨RX7, "allVersions", "()I"⟩
abbrev cX7_allFrames : ByteArray := prog_1_method_42_code
def yX7_allFrames : MethodName := ⟨RX7, "allFrames", "()I"⟩
abbrev cX7_allStaleFrames : ByteArray := prog_1_method_43_code
def yX7_allStaleFrames : MethodName := ⟨RX7, "allStaleFrames", "()I"⟩
abbrev cX7_allOpenNotes : ByteArray := prog_1_method_44_code
def yX7_allOpenNotes : MethodName := ⟨RX7, "allOpenNotes", "()I"⟩
def RX8 : String := "PegbarBarnModel"
def TX8 : u_T := fun k => match k with
  | _ => ("", "", "", false)
def tyX8 : Nat → FieldType := fun k => match k with
  | _ => .int
abbrev wsX80 : List Cond := u_ws RX8 TX8 0
theorem nmX8 : ∀ a, a < 0 → ∀ b, b < 0 → a ≠ b → (TX8 a).2.1 ≠ (TX8 b).2.1 := by decide +kernel
theorem tyX8_ok : ∀ k, k < 0 → parseFieldDescriptor (TX8 k).2.2.1 = some (tyX8 k) := by decide +kernel
def RJ9 : String := "java/lang/Math"
def TJ9 : u_T := fun k => match k with
  | _ => ("", "", "", false)
def tyJ9 : Nat → FieldType := fun k => match k with
  | _ => .int
abbrev wsJ90 : List Cond := u_ws RJ9 TJ9 0
theorem nmJ9 : ∀ a, a < 0 → ∀ b, b < 0 → a ≠ b → (TJ9 a).2.1 ≠ (TJ9 b).2.1 := by decide +kernel
theorem tyJ9_ok : ∀ k, k < 0 → parseFieldDescriptor (TJ9 k).2.2.1 = some (tyJ9 k) := by decide +kernel
abbrev cJ9_floorDiv_7cf53 : ByteArray := prog_15_method_47_code
def yJ9_floorDiv_7cf53 : MethodName := ⟨RJ9, "floorDiv", "(II)I"⟩
def RJ0 : String := "java/lang/String"
def TJ0 : u_T := fun k => match k with
  | _ => ("", "", "", false)
def tyJ0 : Nat → FieldType := fun k => match k with
  | _ => .int
abbrev wsJ00 : List Cond := u_ws RJ0 TJ0 0
theorem nmJ0 : ∀ a, a < 0 → ∀ b, b < 0 → a ≠ b → (TJ0 a).2.1 ≠ (TJ0 b).2.1 := by decide +kernel
theorem tyJ0_ok : ∀ k, k < 0 → parseFieldDescriptor (TJ0 k).2.2.1 = some (tyJ0 k) := by decide +kernel
def RL : String := "PegbarBarnLaw"
abbrev cL_call : ByteArray := method_2_code
def yL_call : MethodName := ⟨RL, "call", "(LPegbarBarn;IIIIII)I"⟩
abbrev cL_ask : ByteArray := method_3_code
def yL_ask : MethodName := ⟨RL, "ask", "(LPegbarBarn;IIIIII)I"⟩
abbrev cL_draw : ByteArray := method_4_code
def yL_draw : MethodName := ⟨RL, "draw", "([II)I"⟩
abbrev cL_poses : ByteArray := method_5_code
def yL_poses : MethodName := ⟨RL, "poses", "(LPegbarBarn;III)I"⟩
abbrev cL_areFrames : ByteArray := method_6_code
def yL_areFrames : MethodName := ⟨RL, "areFrames", "(LPegbarBarn;III)Z"⟩
abbrev cL_law : ByteArray := code
def yL_law : MethodName := ⟨RL, "law", "([I)Z"⟩
theorem dX0_init_0 : decode cX0_init 0 = .ok (.aload_n 0, 1) := by decide +kernel
theorem dX0_init_1 : decode cX0_init 1 = .ok (.invokespecial 3, 3) := by decide +kernel
theorem dX0_init_4 : decode cX0_init 4 = .ok (.aload_n 0, 1) := by decide +kernel
theorem dX0_init_5 : decode cX0_init 5 = .ok (.new 9, 3) := by decide +kernel
theorem dX0_init_8 : decode cX0_init 8 = .ok (.dup, 1) := by decide +kernel
theorem dX0_init_9 : decode cX0_init 9 = .ok (.invokespecial 11, 3) := by decide +kernel
theorem dX0_init_12 : decode cX0_init 12 = .ok (.putfield 12, 3) := by decide +kernel
theorem dX0_init_15 : decode cX0_init 15 = .ok (.aload_n 0, 1) := by decide +kernel
theorem dX0_init_16 : decode cX0_init 16 = .ok (.bipush 12, 2) := by decide +kernel
theorem dX0_init_18 : decode cX0_init 18 = .ok (.anewarray 9, 3) := by decide +kernel
theorem dX0_init_21 : decode cX0_init 21 = .ok (.putfield 18, 3) := by decide +kernel
theorem dX0_init_24 : decode cX0_init 24 = .ok (.return_, 1) := by decide +kernel
theorem dX0_addVersion_0 : decode cX0_addVersion 0 = .ok (.aload_n 0, 1) := by decide +kernel
theorem dX0_addVersion_1 : decode cX0_addVersion 1 = .ok (.getfield 22, 3) := by decide +kernel
theorem dX0_addVersion_4 : decode cX0_addVersion 4 = .ok (.bipush 12, 2) := by decide +kernel
theorem dX0_addVersion_6 : decode cX0_addVersion 6 = .ok (.if_icmp .lt 5, 3) := by decide +kernel
theorem dX0_addVersion_9 : decode cX0_addVersion 9 = .ok (.iconst (-1), 1) := by decide +kernel
theorem dX0_addVersion_10 : decode cX0_addVersion 10 = .ok (.ireturn, 1) := by decide +kernel
theorem dX0_addVersion_11 : decode cX0_addVersion 11 = .ok (.aload_n 0, 1) := by decide +kernel
theorem dX0_addVersion_12 : decode cX0_addVersion 12 = .ok (.getfield 18, 3) := by decide +kernel
theorem dX0_addVersion_15 : decode cX0_addVersion 15 = .ok (.aload_n 0, 1) := by decide +kernel
theorem dX0_addVersion_16 : decode cX0_addVersion 16 = .ok (.getfield 22, 3) := by decide +kernel
theorem dX0_addVersion_19 : decode cX0_addVersion 19 = .ok (.aload_n 0, 1) := by decide +kernel
theorem dX0_addVersion_20 : decode cX0_addVersion 20 = .ok (.getfield 12, 3) := by decide +kernel
theorem dX0_addVersion_23 : decode cX0_addVersion 23 = .ok (.invokevirtual 26, 3) := by decide +kernel
theorem dX0_addVersion_26 : decode cX0_addVersion 26 = .ok (.aastore, 1) := by decide +kernel
theorem dX0_addVersion_27 : decode cX0_addVersion 27 = .ok (.aload_n 0, 1) := by decide +kernel
theorem dX0_addVersion_28 : decode cX0_addVersion 28 = .ok (.dup, 1) := by decide +kernel
theorem dX0_addVersion_29 : decode cX0_addVersion 29 = .ok (.getfield 22, 3) := by decide +kernel
theorem dX0_addVersion_32 : decode cX0_addVersion 32 = .ok (.dup_x1, 1) := by decide +kernel
theorem dX0_addVersion_33 : decode cX0_addVersion 33 = .ok (.iconst 1, 1) := by decide +kernel
theorem dX0_addVersion_34 : decode cX0_addVersion 34 = .ok (.iadd, 1) := by decide +kernel
theorem dX0_addVersion_35 : decode cX0_addVersion 35 = .ok (.putfield 22, 3) := by decide +kernel
theorem dX0_addVersion_38 : decode cX0_addVersion 38 = .ok (.ireturn, 1) := by decide +kernel
theorem dX0_versionAt_0 : decode cX0_versionAt 0 = .ok (.iload_n 1, 1) := by decide +kernel
theorem dX0_versionAt_1 : decode cX0_versionAt 1 = .ok (.ifCond .lt 11, 3) := by decide +kernel
theorem dX0_versionAt_4 : decode cX0_versionAt 4 = .ok (.iload_n 1, 1) := by decide +kernel
theorem dX0_versionAt_5 : decode cX0_versionAt 5 = .ok (.aload_n 0, 1) := by decide +kernel
theorem dX0_versionAt_6 : decode cX0_versionAt 6 = .ok (.getfield 22, 3) := by decide +kernel
theorem dX0_versionAt_9 : decode cX0_versionAt 9 = .ok (.if_icmp .lt 7, 3) := by decide +kernel
theorem dX0_versionAt_12 : decode cX0_versionAt 12 = .ok (.aconst_null, 1) := by decide +kernel
theorem dX0_versionAt_13 : decode cX0_versionAt 13 = .ok (.goto 9, 3) := by decide +kernel
theorem dX0_versionAt_16 : decode cX0_versionAt 16 = .ok (.aload_n 0, 1) := by decide +kernel
theorem dX0_versionAt_17 : decode cX0_versionAt 17 = .ok (.getfield 18, 3) := by decide +kernel
theorem dX0_versionAt_20 : decode cX0_versionAt 20 = .ok (.iload_n 1, 1) := by decide +kernel
theorem dX0_versionAt_21 : decode cX0_versionAt 21 = .ok (.aaload, 1) := by decide +kernel
theorem dX0_versionAt_22 : decode cX0_versionAt 22 = .ok (.areturn, 1) := by decide +kernel
theorem dX0_looksAlike_0 : decode cX0_looksAlike 0 = .ok (.iload_n 1, 1) := by decide +kernel
theorem dX0_looksAlike_1 : decode cX0_looksAlike 1 = .ok (.iload_n 2, 1) := by decide +kernel
theorem dX0_looksAlike_2 : decode cX0_looksAlike 2 = .ok (.if_icmp .ne 5, 3) := by decide +kernel
theorem dX0_looksAlike_5 : decode cX0_looksAlike 5 = .ok (.iconst 1, 1) := by decide +kernel
theorem dX0_looksAlike_6 : decode cX0_looksAlike 6 = .ok (.ireturn, 1) := by decide +kernel
theorem dX0_looksAlike_7 : decode cX0_looksAlike 7 = .ok (.aload_n 0, 1) := by decide +kernel
theorem dX0_looksAlike_8 : decode cX0_looksAlike 8 = .ok (.iload_n 1, 1) := by decide +kernel
theorem dX0_looksAlike_9 : decode cX0_looksAlike 9 = .ok (.invokevirtual 30, 3) := by decide +kernel
theorem dX0_looksAlike_12 : decode cX0_looksAlike 12 = .ok (.astore 4, 2) := by decide +kernel
theorem dX0_looksAlike_14 : decode cX0_looksAlike 14 = .ok (.aload_n 0, 1) := by decide +kernel
theorem dX0_looksAlike_15 : decode cX0_looksAlike 15 = .ok (.iload_n 2, 1) := by decide +kernel
theorem dX0_looksAlike_16 : decode cX0_looksAlike 16 = .ok (.invokevirtual 30, 3) := by decide +kernel
theorem dX0_looksAlike_19 : decode cX0_looksAlike 19 = .ok (.astore 5, 2) := by decide +kernel
theorem dX0_looksAlike_21 : decode cX0_looksAlike 21 = .ok (.aload 4, 2) := by decide +kernel
theorem dX0_looksAlike_23 : decode cX0_looksAlike 23 = .ok (.ifnull 23, 3) := by decide +kernel
theorem dX0_looksAlike_26 : decode cX0_looksAlike 26 = .ok (.aload 5, 2) := by decide +kernel
theorem dX0_looksAlike_28 : decode cX0_looksAlike 28 = .ok (.ifnull 18, 3) := by decide +kernel
theorem dX0_looksAlike_31 : decode cX0_looksAlike 31 = .ok (.aload 4, 2) := by decide +kernel
theorem dX0_looksAlike_33 : decode cX0_looksAlike 33 = .ok (.aload 5, 2) := by decide +kernel
theorem dX0_looksAlike_35 : decode cX0_looksAlike 35 = .ok (.iload_n 3, 1) := by decide +kernel
theorem dX0_looksAlike_36 : decode cX0_looksAlike 36 = .ok (.invokevirtual 34, 3) := by decide +kernel
theorem dX0_looksAlike_39 : decode cX0_looksAlike 39 = .ok (.ifCond .eq 7, 3) := by decide +kernel
theorem dX0_looksAlike_42 : decode cX0_looksAlike 42 = .ok (.iconst 1, 1) := by decide +kernel
theorem dX0_looksAlike_43 : decode cX0_looksAlike 43 = .ok (.goto 4, 3) := by decide +kernel
theorem dX0_looksAlike_46 : decode cX0_looksAlike 46 = .ok (.iconst 0, 1) := by decide +kernel
theorem dX0_looksAlike_47 : decode cX0_looksAlike 47 = .ok (.ireturn, 1) := by decide +kernel
theorem dX1_init_0 : decode cX1_init 0 = .ok (.aload_n 0, 1) := by decide +kernel
theorem dX1_init_1 : decode cX1_init 1 = .ok (.invokespecial 1, 3) := by decide +kernel
theorem dX1_init_4 : decode cX1_init 4 = .ok (.return_, 1) := by decide +kernel
theorem dX1_covers_0 : decode cX1_covers 0 = .ok (.iload_n 1, 1) := by decide +kernel
theorem dX1_covers_1 : decode cX1_covers 1 = .ok (.aload_n 0, 1) := by decide +kernel
theorem dX1_covers_2 : decode cX1_covers 2 = .ok (.getfield 7, 3) := by decide +kernel
theorem dX1_covers_5 : decode cX1_covers 5 = .ok (.if_icmp .lt 15, 3) := by decide +kernel
theorem dX1_covers_8 : decode cX1_covers 8 = .ok (.iload_n 1, 1) := by decide +kernel
theorem dX1_covers_9 : decode cX1_covers 9 = .ok (.aload_n 0, 1) := by decide +kernel
theorem dX1_covers_10 : decode cX1_covers 10 = .ok (.getfield 13, 3) := by decide +kernel
theorem dX1_covers_13 : decode cX1_covers 13 = .ok (.if_icmp .gt 7, 3) := by decide +kernel
theorem dX1_covers_16 : decode cX1_covers 16 = .ok (.iconst 1, 1) := by decide +kernel
theorem dX1_covers_17 : decode cX1_covers 17 = .ok (.goto 4, 3) := by decide +kernel
theorem dX1_covers_20 : decode cX1_covers 20 = .ok (.iconst 0, 1) := by decide +kernel
theorem dX1_covers_21 : decode cX1_covers 21 = .ok (.ireturn, 1) := by decide +kernel
theorem dX2_init_0 : decode cX2_init 0 = .ok (.aload_n 0, 1) := by decide +kernel
theorem dX2_init_1 : decode cX2_init 1 = .ok (.invokespecial 3, 3) := by decide +kernel
theorem dX2_init_4 : decode cX2_init 4 = .ok (.aload_n 0, 1) := by decide +kernel
theorem dX2_init_5 : decode cX2_init 5 = .ok (.bipush 12, 2) := by decide +kernel
theorem dX2_init_7 : decode cX2_init 7 = .ok (.newarray .int, 2) := by decide +kernel
theorem dX2_init_9 : decode cX2_init 9 = .ok (.putfield 9, 3) := by decide +kernel
theorem dX2_init_12 : decode cX2_init 12 = .ok (.aload_n 0, 1) := by decide +kernel
theorem dX2_init_13 : decode cX2_init 13 = .ok (.bipush 12, 2) := by decide +kernel
theorem dX2_init_15 : decode cX2_init 15 = .ok (.newarray .int, 2) := by decide +kernel
theorem dX2_init_17 : decode cX2_init 17 = .ok (.putfield 15, 3) := by decide +kernel
theorem dX2_init_20 : decode cX2_init 20 = .ok (.aload_n 0, 1) := by decide +kernel
theorem dX2_init_21 : decode cX2_init 21 = .ok (.bipush 12, 2) := by decide +kernel
theorem dX2_init_23 : decode cX2_init 23 = .ok (.newarray .int, 2) := by decide +kernel
theorem dX2_init_25 : decode cX2_init 25 = .ok (.putfield 18, 3) := by decide +kernel
theorem dX2_init_28 : decode cX2_init 28 = .ok (.return_, 1) := by decide +kernel
theorem dX2_keysAhead_0 : decode cX2_keysAhead 0 = .ok (.iconst 0, 1) := by decide +kernel
theorem dX2_keysAhead_1 : decode cX2_keysAhead 1 = .ok (.istore_n 2, 1) := by decide +kernel
theorem dX2_keysAhead_2 : decode cX2_keysAhead 2 = .ok (.iload_n 2, 1) := by decide +kernel
theorem dX2_keysAhead_3 : decode cX2_keysAhead 3 = .ok (.aload_n 0, 1) := by decide +kernel
theorem dX2_keysAhead_4 : decode cX2_keysAhead 4 = .ok (.getfield 21, 3) := by decide +kernel
theorem dX2_keysAhead_7 : decode cX2_keysAhead 7 = .ok (.if_icmp .ge 19, 3) := by decide +kernel
theorem dX2_keysAhead_10 : decode cX2_keysAhead 10 = .ok (.aload_n 0, 1) := by decide +kernel
theorem dX2_keysAhead_11 : decode cX2_keysAhead 11 = .ok (.getfield 9, 3) := by decide +kernel
theorem dX2_keysAhead_14 : decode cX2_keysAhead 14 = .ok (.iload_n 2, 1) := by decide +kernel
theorem dX2_keysAhead_15 : decode cX2_keysAhead 15 = .ok (.iaload, 1) := by decide +kernel
theorem dX2_keysAhead_16 : decode cX2_keysAhead 16 = .ok (.iload_n 1, 1) := by decide +kernel
theorem dX2_keysAhead_17 : decode cX2_keysAhead 17 = .ok (.if_icmp .ge 9, 3) := by decide +kernel
theorem dX2_keysAhead_20 : decode cX2_keysAhead 20 = .ok (.iinc 2 1, 3) := by decide +kernel
theorem dX2_keysAhead_23 : decode cX2_keysAhead 23 = .ok (.goto (-21), 3) := by decide +kernel
theorem dX2_keysAhead_26 : decode cX2_keysAhead 26 = .ok (.iload_n 2, 1) := by decide +kernel
theorem dX2_keysAhead_27 : decode cX2_keysAhead 27 = .ok (.ireturn, 1) := by decide +kernel
theorem dX2_standsAt_0 : decode cX2_standsAt 0 = .ok (.iload_n 1, 1) := by decide +kernel
theorem dX2_standsAt_1 : decode cX2_standsAt 1 = .ok (.aload_n 0, 1) := by decide +kernel
theorem dX2_standsAt_2 : decode cX2_standsAt 2 = .ok (.getfield 21, 3) := by decide +kernel
theorem dX2_standsAt_5 : decode cX2_standsAt 5 = .ok (.if_icmp .ge 17, 3) := by decide +kernel
theorem dX2_standsAt_8 : decode cX2_standsAt 8 = .ok (.aload_n 0, 1) := by decide +kernel
theorem dX2_standsAt_9 : decode cX2_standsAt 9 = .ok (.getfield 9, 3) := by decide +kernel
theorem dX2_standsAt_12 : decode cX2_standsAt 12 = .ok (.iload_n 1, 1) := by decide +kernel
theorem dX2_standsAt_13 : decode cX2_standsAt 13 = .ok (.iaload, 1) := by decide +kernel
theorem dX2_standsAt_14 : decode cX2_standsAt 14 = .ok (.iload_n 2, 1) := by decide +kernel
theorem dX2_standsAt_15 : decode cX2_standsAt 15 = .ok (.if_icmp .ne 7, 3) := by decide +kernel
theorem dX2_standsAt_18 : decode cX2_standsAt 18 = .ok (.iconst 1, 1) := by decide +kernel
theorem dX2_standsAt_19 : decode cX2_standsAt 19 = .ok (.goto 4, 3) := by decide +kernel
theorem dX2_standsAt_22 : decode cX2_standsAt 22 = .ok (.iconst 0, 1) := by decide +kernel
theorem dX2_standsAt_23 : decode cX2_standsAt 23 = .ok (.ireturn, 1) := by decide +kernel
theorem dX2_hasRoomFor_0 : decode cX2_hasRoomFor 0 = .ok (.aload_n 0, 1) := by decide +kernel
theorem dX2_hasRoomFor_1 : decode cX2_hasRoomFor 1 = .ok (.getfield 21, 3) := by decide +kernel
theorem dX2_hasRoomFor_4 : decode cX2_hasRoomFor 4 = .ok (.bipush 12, 2) := by decide +kernel
theorem dX2_hasRoomFor_6 : decode cX2_hasRoomFor 6 = .ok (.if_icmp .lt 16, 3) := by decide +kernel
theorem dX2_hasRoomFor_9 : decode cX2_hasRoomFor 9 = .ok (.aload_n 0, 1) := by decide +kernel
theorem dX2_hasRoomFor_10 : decode cX2_hasRoomFor 10 = .ok (.aload_n 0, 1) := by decide +kernel
theorem dX2_hasRoomFor_11 : decode cX2_hasRoomFor 11 = .ok (.iload_n 1, 1) := by decide +kernel
theorem dX2_hasRoomFor_12 : decode cX2_hasRoomFor 12 = .ok (.invokevirtual 25, 3) := by decide +kernel
theorem dX2_hasRoomFor_15 : decode cX2_hasRoomFor 15 = .ok (.iload_n 1, 1) := by decide +kernel
theorem dX2_hasRoomFor_16 : decode cX2_hasRoomFor 16 = .ok (.invokevirtual 29, 3) := by decide +kernel
theorem dX2_hasRoomFor_19 : decode cX2_hasRoomFor 19 = .ok (.ifCond .eq 7, 3) := by decide +kernel
theorem dX2_hasRoomFor_22 : decode cX2_hasRoomFor 22 = .ok (.iconst 1, 1) := by decide +kernel
theorem dX2_hasRoomFor_23 : decode cX2_hasRoomFor 23 = .ok (.goto 4, 3) := by decide +kernel
theorem dX2_hasRoomFor_26 : decode cX2_hasRoomFor 26 = .ok (.iconst 0, 1) := by decide +kernel
theorem dX2_hasRoomFor_27 : decode cX2_hasRoomFor 27 = .ok (.ireturn, 1) := by decide +kernel
theorem dX2_put_0 : decode cX2_put 0 = .ok (.aload_n 0, 1) := by decide +kernel
theorem dX2_put_1 : decode cX2_put 1 = .ok (.iload_n 1, 1) := by decide +kernel
theorem dX2_put_2 : decode cX2_put 2 = .ok (.invokevirtual 33, 3) := by decide +kernel
theorem dX2_put_5 : decode cX2_put 5 = .ok (.ifCond .ne 4, 3) := by decide +kernel
theorem dX2_put_8 : decode cX2_put 8 = .ok (.return_, 1) := by decide +kernel
theorem dX2_put_9 : decode cX2_put 9 = .ok (.aload_n 0, 1) := by decide +kernel
theorem dX2_put_10 : decode cX2_put 10 = .ok (.iload_n 1, 1) := by decide +kernel
theorem dX2_put_11 : decode cX2_put 11 = .ok (.invokevirtual 25, 3) := by decide +kernel
theorem dX2_put_14 : decode cX2_put 14 = .ok (.istore 4, 2) := by decide +kernel
theorem dX2_put_16 : decode cX2_put 16 = .ok (.aload_n 0, 1) := by decide +kernel
theorem dX2_put_17 : decode cX2_put 17 = .ok (.iload 4, 2) := by decide +kernel
theorem dX2_put_19 : decode cX2_put 19 = .ok (.iload_n 1, 1) := by decide +kernel
theorem dX2_put_20 : decode cX2_put 20 = .ok (.invokevirtual 29, 3) := by decide +kernel
theorem dX2_put_23 : decode cX2_put 23 = .ok (.ifCond .ne 42, 3) := by decide +kernel
theorem dX2_put_26 : decode cX2_put 26 = .ok (.aload_n 0, 1) := by decide +kernel
theorem dX2_put_27 : decode cX2_put 27 = .ok (.getfield 21, 3) := by decide +kernel
theorem dX2_put_30 : decode cX2_put 30 = .ok (.istore 5, 2) := by decide +kernel
theorem dX2_put_32 : decode cX2_put 32 = .ok (.iload 5, 2) := by decide +kernel
theorem dX2_put_34 : decode cX2_put 34 = .ok (.iload 4, 2) := by decide +kernel
theorem dX2_put_36 : decode cX2_put 36 = .ok (.if_icmp .le 19, 3) := by decide +kernel
theorem dX2_put_39 : decode cX2_put 39 = .ok (.aload_n 0, 1) := by decide +kernel
theorem dX2_put_40 : decode cX2_put 40 = .ok (.iload 5, 2) := by decide +kernel
theorem dX2_put_42 : decode cX2_put 42 = .ok (.iconst 1, 1) := by decide +kernel
theorem dX2_put_43 : decode cX2_put 43 = .ok (.isub, 1) := by decide +kernel
theorem dX2_put_44 : decode cX2_put 44 = .ok (.iload 5, 2) := by decide +kernel
theorem dX2_put_46 : decode cX2_put 46 = .ok (.invokevirtual 37, 3) := by decide +kernel
theorem dX2_put_49 : decode cX2_put 49 = .ok (.iinc 5 (-1), 3) := by decide +kernel
theorem dX2_put_52 : decode cX2_put 52 = .ok (.goto (-20), 3) := by decide +kernel
theorem dX2_put_55 : decode cX2_put 55 = .ok (.aload_n 0, 1) := by decide +kernel
theorem dX2_put_56 : decode cX2_put 56 = .ok (.dup, 1) := by decide +kernel
theorem dX2_put_57 : decode cX2_put 57 = .ok (.getfield 21, 3) := by decide +kernel
theorem dX2_put_60 : decode cX2_put 60 = .ok (.iconst 1, 1) := by decide +kernel
theorem dX2_put_61 : decode cX2_put 61 = .ok (.iadd, 1) := by decide +kernel
theorem dX2_put_62 : decode cX2_put 62 = .ok (.putfield 21, 3) := by decide +kernel
theorem dX2_put_65 : decode cX2_put 65 = .ok (.aload_n 0, 1) := by decide +kernel
theorem dX2_put_66 : decode cX2_put 66 = .ok (.getfield 9, 3) := by decide +kernel
theorem dX2_put_69 : decode cX2_put 69 = .ok (.iload 4, 2) := by decide +kernel
theorem dX2_put_71 : decode cX2_put 71 = .ok (.iload_n 1, 1) := by decide +kernel
theorem dX2_put_72 : decode cX2_put 72 = .ok (.iastore, 1) := by decide +kernel
theorem dX2_put_73 : decode cX2_put 73 = .ok (.aload_n 0, 1) := by decide +kernel
theorem dX2_put_74 : decode cX2_put 74 = .ok (.getfield 15, 3) := by decide +kernel
theorem dX2_put_77 : decode cX2_put 77 = .ok (.iload 4, 2) := by decide +kernel
theorem dX2_put_79 : decode cX2_put 79 = .ok (.iload_n 2, 1) := by decide +kernel
theorem dX2_put_80 : decode cX2_put 80 = .ok (.iastore, 1) := by decide +kernel
theorem dX2_put_81 : decode cX2_put 81 = .ok (.aload_n 0, 1) := by decide +kernel
theorem dX2_put_82 : decode cX2_put 82 = .ok (.getfield 18, 3) := by decide +kernel
theorem dX2_put_85 : decode cX2_put 85 = .ok (.iload 4, 2) := by decide +kernel
theorem dX2_put_87 : decode cX2_put 87 = .ok (.iload_n 3, 1) := by decide +kernel
theorem dX2_put_88 : decode cX2_put 88 = .ok (.iastore, 1) := by decide +kernel
theorem dX2_put_89 : decode cX2_put 89 = .ok (.return_, 1) := by decide +kernel
theorem dX2_take_0 : decode cX2_take 0 = .ok (.aload_n 0, 1) := by decide +kernel
theorem dX2_take_1 : decode cX2_take 1 = .ok (.iload_n 1, 1) := by decide +kernel
theorem dX2_take_2 : decode cX2_take 2 = .ok (.invokevirtual 25, 3) := by decide +kernel
theorem dX2_take_5 : decode cX2_take 5 = .ok (.istore_n 2, 1) := by decide +kernel
theorem dX2_take_6 : decode cX2_take 6 = .ok (.aload_n 0, 1) := by decide +kernel
theorem dX2_take_7 : decode cX2_take 7 = .ok (.iload_n 2, 1) := by decide +kernel
theorem dX2_take_8 : decode cX2_take 8 = .ok (.iload_n 1, 1) := by decide +kernel
theorem dX2_take_9 : decode cX2_take 9 = .ok (.invokevirtual 29, 3) := by decide +kernel
theorem dX2_take_12 : decode cX2_take 12 = .ok (.ifCond .ne 5, 3) := by decide +kernel
theorem dX2_take_15 : decode cX2_take 15 = .ok (.iconst 0, 1) := by decide +kernel
theorem dX2_take_16 : decode cX2_take 16 = .ok (.ireturn, 1) := by decide +kernel
theorem dX2_take_17 : decode cX2_take 17 = .ok (.aload_n 0, 1) := by decide +kernel
theorem dX2_take_18 : decode cX2_take 18 = .ok (.dup, 1) := by decide +kernel
theorem dX2_take_19 : decode cX2_take 19 = .ok (.getfield 21, 3) := by decide +kernel
theorem dX2_take_22 : decode cX2_take 22 = .ok (.iconst 1, 1) := by decide +kernel
theorem dX2_take_23 : decode cX2_take 23 = .ok (.isub, 1) := by decide +kernel
theorem dX2_take_24 : decode cX2_take 24 = .ok (.putfield 21, 3) := by decide +kernel
theorem dX2_take_27 : decode cX2_take 27 = .ok (.iload_n 2, 1) := by decide +kernel
theorem dX2_take_28 : decode cX2_take 28 = .ok (.istore_n 3, 1) := by decide +kernel
theorem dX2_take_29 : decode cX2_take 29 = .ok (.iload_n 3, 1) := by decide +kernel
theorem dX2_take_30 : decode cX2_take 30 = .ok (.aload_n 0, 1) := by decide +kernel
theorem dX2_take_31 : decode cX2_take 31 = .ok (.getfield 21, 3) := by decide +kernel
theorem dX2_take_34 : decode cX2_take 34 = .ok (.if_icmp .ge 17, 3) := by decide +kernel
theorem dX2_take_37 : decode cX2_take 37 = .ok (.aload_n 0, 1) := by decide +kernel
theorem dX2_take_38 : decode cX2_take 38 = .ok (.iload_n 3, 1) := by decide +kernel
theorem dX2_take_39 : decode cX2_take 39 = .ok (.iconst 1, 1) := by decide +kernel
theorem dX2_take_40 : decode cX2_take 40 = .ok (.iadd, 1) := by decide +kernel
theorem dX2_take_41 : decode cX2_take 41 = .ok (.iload_n 3, 1) := by decide +kernel
theorem dX2_take_42 : decode cX2_take 42 = .ok (.invokevirtual 37, 3) := by decide +kernel
theorem dX2_take_45 : decode cX2_take 45 = .ok (.iinc 3 1, 3) := by decide +kernel
theorem dX2_take_48 : decode cX2_take 48 = .ok (.goto (-19), 3) := by decide +kernel
theorem dX2_take_51 : decode cX2_take 51 = .ok (.iconst 1, 1) := by decide +kernel
theorem dX2_take_52 : decode cX2_take 52 = .ok (.ireturn, 1) := by decide +kernel
theorem dX2_moveKey_0 : decode cX2_moveKey 0 = .ok (.aload_n 0, 1) := by decide +kernel
theorem dX2_moveKey_1 : decode cX2_moveKey 1 = .ok (.getfield 9, 3) := by decide +kernel
theorem dX2_moveKey_4 : decode cX2_moveKey 4 = .ok (.iload_n 2, 1) := by decide +kernel
theorem dX2_moveKey_5 : decode cX2_moveKey 5 = .ok (.aload_n 0, 1) := by decide +kernel
theorem dX2_moveKey_6 : decode cX2_moveKey 6 = .ok (.getfield 9, 3) := by decide +kernel
theorem dX2_moveKey_9 : decode cX2_moveKey 9 = .ok (.iload_n 1, 1) := by decide +kernel
theorem dX2_moveKey_10 : decode cX2_moveKey 10 = .ok (.iaload, 1) := by decide +kernel
theorem dX2_moveKey_11 : decode cX2_moveKey 11 = .ok (.iastore, 1) := by decide +kernel
theorem dX2_moveKey_12 : decode cX2_moveKey 12 = .ok (.aload_n 0, 1) := by decide +kernel
theorem dX2_moveKey_13 : decode cX2_moveKey 13 = .ok (.getfield 15, 3) := by decide +kernel
theorem dX2_moveKey_16 : decode cX2_moveKey 16 = .ok (.iload_n 2, 1) := by decide +kernel
theorem dX2_moveKey_17 : decode cX2_moveKey 17 = .ok (.aload_n 0, 1) := by decide +kernel
theorem dX2_moveKey_18 : decode cX2_moveKey 18 = .ok (.getfield 15, 3) := by decide +kernel
theorem dX2_moveKey_21 : decode cX2_moveKey 21 = .ok (.iload_n 1, 1) := by decide +kernel
theorem dX2_moveKey_22 : decode cX2_moveKey 22 = .ok (.iaload, 1) := by decide +kernel
theorem dX2_moveKey_23 : decode cX2_moveKey 23 = .ok (.iastore, 1) := by decide +kernel
theorem dX2_moveKey_24 : decode cX2_moveKey 24 = .ok (.aload_n 0, 1) := by decide +kernel
theorem dX2_moveKey_25 : decode cX2_moveKey 25 = .ok (.getfield 18, 3) := by decide +kernel
theorem dX2_moveKey_28 : decode cX2_moveKey 28 = .ok (.iload_n 2, 1) := by decide +kernel
theorem dX2_moveKey_29 : decode cX2_moveKey 29 = .ok (.aload_n 0, 1) := by decide +kernel
theorem dX2_moveKey_30 : decode cX2_moveKey 30 = .ok (.getfield 18, 3) := by decide +kernel
theorem dX2_moveKey_33 : decode cX2_moveKey 33 = .ok (.iload_n 1, 1) := by decide +kernel
theorem dX2_moveKey_34 : decode cX2_moveKey 34 = .ok (.iaload, 1) := by decide +kernel
theorem dX2_moveKey_35 : decode cX2_moveKey 35 = .ok (.iastore, 1) := by decide +kernel
theorem dX2_moveKey_36 : decode cX2_moveKey 36 = .ok (.return_, 1) := by decide +kernel
theorem dX2_valueAt_0 : decode cX2_valueAt 0 = .ok (.aload_n 0, 1) := by decide +kernel
theorem dX2_valueAt_1 : decode cX2_valueAt 1 = .ok (.getfield 21, 3) := by decide +kernel
theorem dX2_valueAt_4 : decode cX2_valueAt 4 = .ok (.ifCond .ne 5, 3) := by decide +kernel
theorem dX2_valueAt_7 : decode cX2_valueAt 7 = .ok (.iconst 0, 1) := by decide +kernel
theorem dX2_valueAt_8 : decode cX2_valueAt 8 = .ok (.ireturn, 1) := by decide +kernel
theorem dX2_valueAt_9 : decode cX2_valueAt 9 = .ok (.aload_n 0, 1) := by decide +kernel
theorem dX2_valueAt_10 : decode cX2_valueAt 10 = .ok (.iload_n 1, 1) := by decide +kernel
theorem dX2_valueAt_11 : decode cX2_valueAt 11 = .ok (.iconst 1, 1) := by decide +kernel
theorem dX2_valueAt_12 : decode cX2_valueAt 12 = .ok (.iadd, 1) := by decide +kernel
theorem dX2_valueAt_13 : decode cX2_valueAt 13 = .ok (.invokevirtual 25, 3) := by decide +kernel
theorem dX2_valueAt_16 : decode cX2_valueAt 16 = .ok (.istore_n 2, 1) := by decide +kernel
theorem dX2_valueAt_17 : decode cX2_valueAt 17 = .ok (.iload_n 2, 1) := by decide +kernel
theorem dX2_valueAt_18 : decode cX2_valueAt 18 = .ok (.ifCond .ne 10, 3) := by decide +kernel
theorem dX2_valueAt_21 : decode cX2_valueAt 21 = .ok (.aload_n 0, 1) := by decide +kernel
theorem dX2_valueAt_22 : decode cX2_valueAt 22 = .ok (.getfield 15, 3) := by decide +kernel
theorem dX2_valueAt_25 : decode cX2_valueAt 25 = .ok (.iconst 0, 1) := by decide +kernel
theorem dX2_valueAt_26 : decode cX2_valueAt 26 = .ok (.iaload, 1) := by decide +kernel
theorem dX2_valueAt_27 : decode cX2_valueAt 27 = .ok (.ireturn, 1) := by decide +kernel
theorem dX2_valueAt_28 : decode cX2_valueAt 28 = .ok (.iload_n 2, 1) := by decide +kernel
theorem dX2_valueAt_29 : decode cX2_valueAt 29 = .ok (.aload_n 0, 1) := by decide +kernel
theorem dX2_valueAt_30 : decode cX2_valueAt 30 = .ok (.getfield 21, 3) := by decide +kernel
theorem dX2_valueAt_33 : decode cX2_valueAt 33 = .ok (.if_icmp .lt 15, 3) := by decide +kernel
theorem dX2_valueAt_36 : decode cX2_valueAt 36 = .ok (.aload_n 0, 1) := by decide +kernel
theorem dX2_valueAt_37 : decode cX2_valueAt 37 = .ok (.getfield 15, 3) := by decide +kernel
theorem dX2_valueAt_40 : decode cX2_valueAt 40 = .ok (.aload_n 0, 1) := by decide +kernel
theorem dX2_valueAt_41 : decode cX2_valueAt 41 = .ok (.getfield 21, 3) := by decide +kernel
theorem dX2_valueAt_44 : decode cX2_valueAt 44 = .ok (.iconst 1, 1) := by decide +kernel
theorem dX2_valueAt_45 : decode cX2_valueAt 45 = .ok (.isub, 1) := by decide +kernel
theorem dX2_valueAt_46 : decode cX2_valueAt 46 = .ok (.iaload, 1) := by decide +kernel
theorem dX2_valueAt_47 : decode cX2_valueAt 47 = .ok (.ireturn, 1) := by decide +kernel
theorem dX2_valueAt_48 : decode cX2_valueAt 48 = .ok (.aload_n 0, 1) := by decide +kernel
theorem dX2_valueAt_49 : decode cX2_valueAt 49 = .ok (.iload_n 2, 1) := by decide +kernel
theorem dX2_valueAt_50 : decode cX2_valueAt 50 = .ok (.iload_n 1, 1) := by decide +kernel
theorem dX2_valueAt_51 : decode cX2_valueAt 51 = .ok (.invokevirtual 41, 3) := by decide +kernel
theorem dX2_valueAt_54 : decode cX2_valueAt 54 = .ok (.ireturn, 1) := by decide +kernel
theorem dX2_valueAhead_0 : decode cX2_valueAhead 0 = .ok (.iload_n 1, 1) := by decide +kernel
theorem dX2_valueAhead_1 : decode cX2_valueAhead 1 = .ok (.iconst 1, 1) := by decide +kernel
theorem dX2_valueAhead_2 : decode cX2_valueAhead 2 = .ok (.isub, 1) := by decide +kernel
theorem dX2_valueAhead_3 : decode cX2_valueAhead 3 = .ok (.istore_n 3, 1) := by decide +kernel
theorem dX2_valueAhead_4 : decode cX2_valueAhead 4 = .ok (.aload_n 0, 1) := by decide +kernel
theorem dX2_valueAhead_5 : decode cX2_valueAhead 5 = .ok (.getfield 15, 3) := by decide +kernel
theorem dX2_valueAhead_8 : decode cX2_valueAhead 8 = .ok (.iload_n 3, 1) := by decide +kernel
theorem dX2_valueAhead_9 : decode cX2_valueAhead 9 = .ok (.iaload, 1) := by decide +kernel
theorem dX2_valueAhead_10 : decode cX2_valueAhead 10 = .ok (.istore 4, 2) := by decide +kernel
theorem dX2_valueAhead_12 : decode cX2_valueAhead 12 = .ok (.aload_n 0, 1) := by decide +kernel
theorem dX2_valueAhead_13 : decode cX2_valueAhead 13 = .ok (.getfield 9, 3) := by decide +kernel
theorem dX2_valueAhead_16 : decode cX2_valueAhead 16 = .ok (.iload_n 1, 1) := by decide +kernel
theorem dX2_valueAhead_17 : decode cX2_valueAhead 17 = .ok (.iaload, 1) := by decide +kernel
theorem dX2_valueAhead_18 : decode cX2_valueAhead 18 = .ok (.aload_n 0, 1) := by decide +kernel
theorem dX2_valueAhead_19 : decode cX2_valueAhead 19 = .ok (.getfield 9, 3) := by decide +kernel
theorem dX2_valueAhead_22 : decode cX2_valueAhead 22 = .ok (.iload_n 3, 1) := by decide +kernel
theorem dX2_valueAhead_23 : decode cX2_valueAhead 23 = .ok (.iaload, 1) := by decide +kernel
theorem dX2_valueAhead_24 : decode cX2_valueAhead 24 = .ok (.isub, 1) := by decide +kernel
theorem dX2_valueAhead_25 : decode cX2_valueAhead 25 = .ok (.istore 5, 2) := by decide +kernel
theorem dX2_valueAhead_27 : decode cX2_valueAhead 27 = .ok (.aload_n 0, 1) := by decide +kernel
theorem dX2_valueAhead_28 : decode cX2_valueAhead 28 = .ok (.getfield 18, 3) := by decide +kernel
theorem dX2_valueAhead_31 : decode cX2_valueAhead 31 = .ok (.iload_n 3, 1) := by decide +kernel
theorem dX2_valueAhead_32 : decode cX2_valueAhead 32 = .ok (.iaload, 1) := by decide +kernel
theorem dX2_valueAhead_33 : decode cX2_valueAhead 33 = .ok (.ifCond .eq 8, 3) := by decide +kernel
theorem dX2_valueAhead_36 : decode cX2_valueAhead 36 = .ok (.iload 5, 2) := by decide +kernel
theorem dX2_valueAhead_38 : decode cX2_valueAhead 38 = .ok (.ifCond .gt 6, 3) := by decide +kernel
theorem dX2_valueAhead_41 : decode cX2_valueAhead 41 = .ok (.iload 4, 2) := by decide +kernel
theorem dX2_valueAhead_43 : decode cX2_valueAhead 43 = .ok (.ireturn, 1) := by decide +kernel
theorem dX2_valueAhead_44 : decode cX2_valueAhead 44 = .ok (.aload_n 0, 1) := by decide +kernel
theorem dX2_valueAhead_45 : decode cX2_valueAhead 45 = .ok (.getfield 15, 3) := by decide +kernel
theorem dX2_valueAhead_48 : decode cX2_valueAhead 48 = .ok (.iload_n 1, 1) := by decide +kernel
theorem dX2_valueAhead_49 : decode cX2_valueAhead 49 = .ok (.iaload, 1) := by decide +kernel
theorem dX2_valueAhead_50 : decode cX2_valueAhead 50 = .ok (.iload 4, 2) := by decide +kernel
theorem dX2_valueAhead_52 : decode cX2_valueAhead 52 = .ok (.isub, 1) := by decide +kernel
theorem dX2_valueAhead_53 : decode cX2_valueAhead 53 = .ok (.istore 6, 2) := by decide +kernel
theorem dX2_valueAhead_55 : decode cX2_valueAhead 55 = .ok (.iload_n 2, 1) := by decide +kernel
theorem dX2_valueAhead_56 : decode cX2_valueAhead 56 = .ok (.aload_n 0, 1) := by decide +kernel
theorem dX2_valueAhead_57 : decode cX2_valueAhead 57 = .ok (.getfield 9, 3) := by decide +kernel
theorem dX2_valueAhead_60 : decode cX2_valueAhead 60 = .ok (.iload_n 3, 1) := by decide +kernel
theorem dX2_valueAhead_61 : decode cX2_valueAhead 61 = .ok (.iaload, 1) := by decide +kernel
theorem dX2_valueAhead_62 : decode cX2_valueAhead 62 = .ok (.isub, 1) := by decide +kernel
theorem dX2_valueAhead_63 : decode cX2_valueAhead 63 = .ok (.istore 7, 2) := by decide +kernel
theorem dX2_valueAhead_65 : decode cX2_valueAhead 65 = .ok (.aload_n 0, 1) := by decide +kernel
theorem dX2_valueAhead_66 : decode cX2_valueAhead 66 = .ok (.getfield 18, 3) := by decide +kernel
theorem dX2_valueAhead_69 : decode cX2_valueAhead 69 = .ok (.iload_n 3, 1) := by decide +kernel
theorem dX2_valueAhead_70 : decode cX2_valueAhead 70 = .ok (.iaload, 1) := by decide +kernel
theorem dX2_valueAhead_71 : decode cX2_valueAhead 71 = .ok (.iconst 1, 1) := by decide +kernel
theorem dX2_valueAhead_72 : decode cX2_valueAhead 72 = .ok (.if_icmp .ne 17, 3) := by decide +kernel
theorem dX2_valueAhead_75 : decode cX2_valueAhead 75 = .ok (.iload 4, 2) := by decide +kernel
theorem dX2_valueAhead_77 : decode cX2_valueAhead 77 = .ok (.iload 6, 2) := by decide +kernel
theorem dX2_valueAhead_79 : decode cX2_valueAhead 79 = .ok (.iload 7, 2) := by decide +kernel
theorem dX2_valueAhead_81 : decode cX2_valueAhead 81 = .ok (.imul, 1) := by decide +kernel
theorem dX2_valueAhead_82 : decode cX2_valueAhead 82 = .ok (.iload 5, 2) := by decide +kernel
theorem dX2_valueAhead_84 : decode cX2_valueAhead 84 = .ok (.invokestatic 45, 3) := by decide +kernel
theorem dX2_valueAhead_87 : decode cX2_valueAhead 87 = .ok (.iadd, 1) := by decide +kernel
theorem dX2_valueAhead_88 : decode cX2_valueAhead 88 = .ok (.ireturn, 1) := by decide +kernel
theorem dX2_valueAhead_89 : decode cX2_valueAhead 89 = .ok (.iload 4, 2) := by decide +kernel
theorem dX2_valueAhead_91 : decode cX2_valueAhead 91 = .ok (.iload 6, 2) := by decide +kernel
theorem dX2_valueAhead_93 : decode cX2_valueAhead 93 = .ok (.iload 7, 2) := by decide +kernel
theorem dX2_valueAhead_95 : decode cX2_valueAhead 95 = .ok (.imul, 1) := by decide +kernel
theorem dX2_valueAhead_96 : decode cX2_valueAhead 96 = .ok (.iload 7, 2) := by decide +kernel
theorem dX2_valueAhead_98 : decode cX2_valueAhead 98 = .ok (.imul, 1) := by decide +kernel
theorem dX2_valueAhead_99 : decode cX2_valueAhead 99 = .ok (.iload 5, 2) := by decide +kernel
theorem dX2_valueAhead_101 : decode cX2_valueAhead 101 = .ok (.iload 5, 2) := by decide +kernel
theorem dX2_valueAhead_103 : decode cX2_valueAhead 103 = .ok (.imul, 1) := by decide +kernel
theorem dX2_valueAhead_104 : decode cX2_valueAhead 104 = .ok (.invokestatic 45, 3) := by decide +kernel
theorem dX2_valueAhead_107 : decode cX2_valueAhead 107 = .ok (.iadd, 1) := by decide +kernel
theorem dX2_valueAhead_108 : decode cX2_valueAhead 108 = .ok (.ireturn, 1) := by decide +kernel
theorem dX2_copy_0 : decode cX2_copy 0 = .ok (.new 10, 3) := by decide +kernel
theorem dX2_copy_3 : decode cX2_copy 3 = .ok (.dup, 1) := by decide +kernel
theorem dX2_copy_4 : decode cX2_copy 4 = .ok (.invokespecial 50, 3) := by decide +kernel
theorem dX2_copy_7 : decode cX2_copy 7 = .ok (.astore_n 1, 1) := by decide +kernel
theorem dX2_copy_8 : decode cX2_copy 8 = .ok (.iconst 0, 1) := by decide +kernel
theorem dX2_copy_9 : decode cX2_copy 9 = .ok (.istore_n 2, 1) := by decide +kernel
theorem dX2_copy_10 : decode cX2_copy 10 = .ok (.iload_n 2, 1) := by decide +kernel
theorem dX2_copy_11 : decode cX2_copy 11 = .ok (.aload_n 0, 1) := by decide +kernel
theorem dX2_copy_12 : decode cX2_copy 12 = .ok (.getfield 21, 3) := by decide +kernel
theorem dX2_copy_15 : decode cX2_copy 15 = .ok (.if_icmp .ge 45, 3) := by decide +kernel
theorem dX2_copy_18 : decode cX2_copy 18 = .ok (.aload_n 1, 1) := by decide +kernel
theorem dX2_copy_19 : decode cX2_copy 19 = .ok (.getfield 9, 3) := by decide +kernel
theorem dX2_copy_22 : decode cX2_copy 22 = .ok (.iload_n 2, 1) := by decide +kernel
theorem dX2_copy_23 : decode cX2_copy 23 = .ok (.aload_n 0, 1) := by decide +kernel
theorem dX2_copy_24 : decode cX2_copy 24 = .ok (.getfield 9, 3) := by decide +kernel
theorem dX2_copy_27 : decode cX2_copy 27 = .ok (.iload_n 2, 1) := by decide +kernel
theorem dX2_copy_28 : decode cX2_copy 28 = .ok (.iaload, 1) := by decide +kernel
theorem dX2_copy_29 : decode cX2_copy 29 = .ok (.iastore, 1) := by decide +kernel
theorem dX2_copy_30 : decode cX2_copy 30 = .ok (.aload_n 1, 1) := by decide +kernel
theorem dX2_copy_31 : decode cX2_copy 31 = .ok (.getfield 15, 3) := by decide +kernel
theorem dX2_copy_34 : decode cX2_copy 34 = .ok (.iload_n 2, 1) := by decide +kernel
theorem dX2_copy_35 : decode cX2_copy 35 = .ok (.aload_n 0, 1) := by decide +kernel
theorem dX2_copy_36 : decode cX2_copy 36 = .ok (.getfield 15, 3) := by decide +kernel
theorem dX2_copy_39 : decode cX2_copy 39 = .ok (.iload_n 2, 1) := by decide +kernel
theorem dX2_copy_40 : decode cX2_copy 40 = .ok (.iaload, 1) := by decide +kernel
theorem dX2_copy_41 : decode cX2_copy 41 = .ok (.iastore, 1) := by decide +kernel
theorem dX2_copy_42 : decode cX2_copy 42 = .ok (.aload_n 1, 1) := by decide +kernel
theorem dX2_copy_43 : decode cX2_copy 43 = .ok (.getfield 18, 3) := by decide +kernel
theorem dX2_copy_46 : decode cX2_copy 46 = .ok (.iload_n 2, 1) := by decide +kernel
theorem dX2_copy_47 : decode cX2_copy 47 = .ok (.aload_n 0, 1) := by decide +kernel
theorem dX2_copy_48 : decode cX2_copy 48 = .ok (.getfield 18, 3) := by decide +kernel
theorem dX2_copy_51 : decode cX2_copy 51 = .ok (.iload_n 2, 1) := by decide +kernel
theorem dX2_copy_52 : decode cX2_copy 52 = .ok (.iaload, 1) := by decide +kernel
theorem dX2_copy_53 : decode cX2_copy 53 = .ok (.iastore, 1) := by decide +kernel
theorem dX2_copy_54 : decode cX2_copy 54 = .ok (.iinc 2 1, 3) := by decide +kernel
theorem dX2_copy_57 : decode cX2_copy 57 = .ok (.goto (-47), 3) := by decide +kernel
theorem dX2_copy_60 : decode cX2_copy 60 = .ok (.aload_n 1, 1) := by decide +kernel
theorem dX2_copy_61 : decode cX2_copy 61 = .ok (.aload_n 0, 1) := by decide +kernel
theorem dX2_copy_62 : decode cX2_copy 62 = .ok (.getfield 21, 3) := by decide +kernel
theorem dX2_copy_65 : decode cX2_copy 65 = .ok (.putfield 21, 3) := by decide +kernel
theorem dX2_copy_68 : decode cX2_copy 68 = .ok (.aload_n 1, 1) := by decide +kernel
theorem dX2_copy_69 : decode cX2_copy 69 = .ok (.areturn, 1) := by decide +kernel
theorem dX3_init_0 : decode cX3_init 0 = .ok (.aload_n 0, 1) := by decide +kernel
theorem dX3_init_1 : decode cX3_init 1 = .ok (.invokespecial 3, 3) := by decide +kernel
theorem dX3_init_4 : decode cX3_init 4 = .ok (.aload_n 0, 1) := by decide +kernel
theorem dX3_init_5 : decode cX3_init 5 = .ok (.bipush 8, 2) := by decide +kernel
theorem dX3_init_7 : decode cX3_init 7 = .ok (.newarray .int, 2) := by decide +kernel
theorem dX3_init_9 : decode cX3_init 9 = .ok (.putfield 9, 3) := by decide +kernel
theorem dX3_init_12 : decode cX3_init 12 = .ok (.aload_n 0, 1) := by decide +kernel
theorem dX3_init_13 : decode cX3_init 13 = .ok (.iload_n 1, 1) := by decide +kernel
theorem dX3_init_14 : decode cX3_init 14 = .ok (.putfield 15, 3) := by decide +kernel
theorem dX3_init_17 : decode cX3_init 17 = .ok (.iconst 0, 1) := by decide +kernel
theorem dX3_init_18 : decode cX3_init 18 = .ok (.istore_n 2, 1) := by decide +kernel
theorem dX3_init_19 : decode cX3_init 19 = .ok (.iload_n 2, 1) := by decide +kernel
theorem dX3_init_20 : decode cX3_init 20 = .ok (.bipush 8, 2) := by decide +kernel
theorem dX3_init_22 : decode cX3_init 22 = .ok (.if_icmp .ge 16, 3) := by decide +kernel
theorem dX3_init_25 : decode cX3_init 25 = .ok (.aload_n 0, 1) := by decide +kernel
theorem dX3_init_26 : decode cX3_init 26 = .ok (.getfield 9, 3) := by decide +kernel
theorem dX3_init_29 : decode cX3_init 29 = .ok (.iload_n 2, 1) := by decide +kernel
theorem dX3_init_30 : decode cX3_init 30 = .ok (.iconst (-1), 1) := by decide +kernel
theorem dX3_init_31 : decode cX3_init 31 = .ok (.iastore, 1) := by decide +kernel
theorem dX3_init_32 : decode cX3_init 32 = .ok (.iinc 2 1, 3) := by decide +kernel
theorem dX3_init_35 : decode cX3_init 35 = .ok (.goto (-16), 3) := by decide +kernel
theorem dX3_init_38 : decode cX3_init 38 = .ok (.return_, 1) := by decide +kernel
theorem dX3_versionOf_0 : decode cX3_versionOf 0 = .ok (.iload_n 1, 1) := by decide +kernel
theorem dX3_versionOf_1 : decode cX3_versionOf 1 = .ok (.ifCond .lt 9, 3) := by decide +kernel
theorem dX3_versionOf_4 : decode cX3_versionOf 4 = .ok (.iload_n 1, 1) := by decide +kernel
theorem dX3_versionOf_5 : decode cX3_versionOf 5 = .ok (.bipush 8, 2) := by decide +kernel
theorem dX3_versionOf_7 : decode cX3_versionOf 7 = .ok (.if_icmp .lt 7, 3) := by decide +kernel
theorem dX3_versionOf_10 : decode cX3_versionOf 10 = .ok (.iconst (-1), 1) := by decide +kernel
theorem dX3_versionOf_11 : decode cX3_versionOf 11 = .ok (.goto 9, 3) := by decide +kernel
theorem dX3_versionOf_14 : decode cX3_versionOf 14 = .ok (.aload_n 0, 1) := by decide +kernel
theorem dX3_versionOf_15 : decode cX3_versionOf 15 = .ok (.getfield 9, 3) := by decide +kernel
theorem dX3_versionOf_18 : decode cX3_versionOf 18 = .ok (.iload_n 1, 1) := by decide +kernel
theorem dX3_versionOf_19 : decode cX3_versionOf 19 = .ok (.iaload, 1) := by decide +kernel
theorem dX3_versionOf_20 : decode cX3_versionOf 20 = .ok (.ireturn, 1) := by decide +kernel
theorem dX3_keepVersion_0 : decode cX3_keepVersion 0 = .ok (.iload_n 1, 1) := by decide +kernel
theorem dX3_keepVersion_1 : decode cX3_keepVersion 1 = .ok (.ifCond .lt 16, 3) := by decide +kernel
theorem dX3_keepVersion_4 : decode cX3_keepVersion 4 = .ok (.iload_n 1, 1) := by decide +kernel
theorem dX3_keepVersion_5 : decode cX3_keepVersion 5 = .ok (.bipush 8, 2) := by decide +kernel
theorem dX3_keepVersion_7 : decode cX3_keepVersion 7 = .ok (.if_icmp .ge 10, 3) := by decide +kernel
theorem dX3_keepVersion_10 : decode cX3_keepVersion 10 = .ok (.aload_n 0, 1) := by decide +kernel
theorem dX3_keepVersion_11 : decode cX3_keepVersion 11 = .ok (.getfield 9, 3) := by decide +kernel
theorem dX3_keepVersion_14 : decode cX3_keepVersion 14 = .ok (.iload_n 1, 1) := by decide +kernel
theorem dX3_keepVersion_15 : decode cX3_keepVersion 15 = .ok (.iload_n 2, 1) := by decide +kernel
theorem dX3_keepVersion_16 : decode cX3_keepVersion 16 = .ok (.iastore, 1) := by decide +kernel
theorem dX3_keepVersion_17 : decode cX3_keepVersion 17 = .ok (.return_, 1) := by decide +kernel
theorem dX4_init_0 : decode cX4_init 0 = .ok (.aload_n 0, 1) := by decide +kernel
theorem dX4_init_1 : decode cX4_init 1 = .ok (.invokespecial 1, 3) := by decide +kernel
theorem dX4_init_4 : decode cX4_init 4 = .ok (.aload_n 0, 1) := by decide +kernel
theorem dX4_init_5 : decode cX4_init 5 = .ok (.iload_n 1, 1) := by decide +kernel
theorem dX4_init_6 : decode cX4_init 6 = .ok (.putfield 7, 3) := by decide +kernel
theorem dX4_init_9 : decode cX4_init 9 = .ok (.aload_n 0, 1) := by decide +kernel
theorem dX4_init_10 : decode cX4_init 10 = .ok (.iload_n 2, 1) := by decide +kernel
theorem dX4_init_11 : decode cX4_init 11 = .ok (.putfield 13, 3) := by decide +kernel
theorem dX4_init_14 : decode cX4_init 14 = .ok (.return_, 1) := by decide +kernel
theorem dX4_followCut_0 : decode cX4_followCut 0 = .ok (.aload_n 0, 1) := by decide +kernel
theorem dX4_followCut_1 : decode cX4_followCut 1 = .ok (.getfield 13, 3) := by decide +kernel
theorem dX4_followCut_4 : decode cX4_followCut 4 = .ok (.iload_n 1, 1) := by decide +kernel
theorem dX4_followCut_5 : decode cX4_followCut 5 = .ok (.iload_n 2, 1) := by decide +kernel
theorem dX4_followCut_6 : decode cX4_followCut 6 = .ok (.iadd, 1) := by decide +kernel
theorem dX4_followCut_7 : decode cX4_followCut 7 = .ok (.if_icmp .lt 16, 3) := by decide +kernel
theorem dX4_followCut_10 : decode cX4_followCut 10 = .ok (.aload_n 0, 1) := by decide +kernel
theorem dX4_followCut_11 : decode cX4_followCut 11 = .ok (.dup, 1) := by decide +kernel
theorem dX4_followCut_12 : decode cX4_followCut 12 = .ok (.getfield 13, 3) := by decide +kernel
theorem dX4_followCut_15 : decode cX4_followCut 15 = .ok (.iload_n 2, 1) := by decide +kernel
theorem dX4_followCut_16 : decode cX4_followCut 16 = .ok (.isub, 1) := by decide +kernel
theorem dX4_followCut_17 : decode cX4_followCut 17 = .ok (.putfield 13, 3) := by decide +kernel
theorem dX4_followCut_20 : decode cX4_followCut 20 = .ok (.goto 37, 3) := by decide +kernel
theorem dX4_followCut_23 : decode cX4_followCut 23 = .ok (.aload_n 0, 1) := by decide +kernel
theorem dX4_followCut_24 : decode cX4_followCut 24 = .ok (.getfield 13, 3) := by decide +kernel
theorem dX4_followCut_27 : decode cX4_followCut 27 = .ok (.iload_n 1, 1) := by decide +kernel
theorem dX4_followCut_28 : decode cX4_followCut 28 = .ok (.if_icmp .lt 29, 3) := by decide +kernel
theorem dX4_followCut_31 : decode cX4_followCut 31 = .ok (.aload_n 0, 1) := by decide +kernel
theorem dX4_followCut_32 : decode cX4_followCut 32 = .ok (.iload_n 1, 1) := by decide +kernel
theorem dX4_followCut_33 : decode cX4_followCut 33 = .ok (.iload_n 3, 1) := by decide +kernel
theorem dX4_followCut_34 : decode cX4_followCut 34 = .ok (.if_icmp .ge 7, 3) := by decide +kernel
theorem dX4_followCut_37 : decode cX4_followCut 37 = .ok (.iload_n 1, 1) := by decide +kernel
theorem dX4_followCut_38 : decode cX4_followCut 38 = .ok (.goto 6, 3) := by decide +kernel
theorem dX4_followCut_41 : decode cX4_followCut 41 = .ok (.iload_n 3, 1) := by decide +kernel
theorem dX4_followCut_42 : decode cX4_followCut 42 = .ok (.iconst 1, 1) := by decide +kernel
theorem dX4_followCut_43 : decode cX4_followCut 43 = .ok (.isub, 1) := by decide +kernel
theorem dX4_followCut_44 : decode cX4_followCut 44 = .ok (.putfield 13, 3) := by decide +kernel
theorem dX4_followCut_47 : decode cX4_followCut 47 = .ok (.aload_n 0, 1) := by decide +kernel
theorem dX4_followCut_48 : decode cX4_followCut 48 = .ok (.dup, 1) := by decide +kernel
theorem dX4_followCut_49 : decode cX4_followCut 49 = .ok (.getfield 16, 3) := by decide +kernel
theorem dX4_followCut_52 : decode cX4_followCut 52 = .ok (.iconst 1, 1) := by decide +kernel
theorem dX4_followCut_53 : decode cX4_followCut 53 = .ok (.iadd, 1) := by decide +kernel
theorem dX4_followCut_54 : decode cX4_followCut 54 = .ok (.putfield 16, 3) := by decide +kernel
theorem dX4_followCut_57 : decode cX4_followCut 57 = .ok (.return_, 1) := by decide +kernel
theorem dX5_init_0 : decode cX5_init 0 = .ok (.aload_n 0, 1) := by decide +kernel
theorem dX5_init_1 : decode cX5_init 1 = .ok (.invokespecial 3, 3) := by decide +kernel
theorem dX5_init_4 : decode cX5_init 4 = .ok (.aload_n 0, 1) := by decide +kernel
theorem dX5_init_5 : decode cX5_init 5 = .ok (.bipush 10, 2) := by decide +kernel
theorem dX5_init_7 : decode cX5_init 7 = .ok (.newarray .int, 2) := by decide +kernel
theorem dX5_init_9 : decode cX5_init 9 = .ok (.putfield 9, 3) := by decide +kernel
theorem dX5_init_12 : decode cX5_init 12 = .ok (.aload_n 0, 1) := by decide +kernel
theorem dX5_init_13 : decode cX5_init 13 = .ok (.bipush 10, 2) := by decide +kernel
theorem dX5_init_15 : decode cX5_init 15 = .ok (.anewarray 15, 3) := by decide +kernel
theorem dX5_init_18 : decode cX5_init 18 = .ok (.putfield 17, 3) := by decide +kernel
theorem dX5_init_21 : decode cX5_init 21 = .ok (.return_, 1) := by decide +kernel
theorem dX5_hasBone_0 : decode cX5_hasBone 0 = .ok (.iload_n 1, 1) := by decide +kernel
theorem dX5_hasBone_1 : decode cX5_hasBone 1 = .ok (.ifCond .lt 15, 3) := by decide +kernel
theorem dX5_hasBone_4 : decode cX5_hasBone 4 = .ok (.iload_n 1, 1) := by decide +kernel
theorem dX5_hasBone_5 : decode cX5_hasBone 5 = .ok (.aload_n 0, 1) := by decide +kernel
theorem dX5_hasBone_6 : decode cX5_hasBone 6 = .ok (.getfield 21, 3) := by decide +kernel
theorem dX5_hasBone_9 : decode cX5_hasBone 9 = .ok (.if_icmp .ge 7, 3) := by decide +kernel
theorem dX5_hasBone_12 : decode cX5_hasBone 12 = .ok (.iconst 1, 1) := by decide +kernel
theorem dX5_hasBone_13 : decode cX5_hasBone 13 = .ok (.goto 4, 3) := by decide +kernel
theorem dX5_hasBone_16 : decode cX5_hasBone 16 = .ok (.iconst 0, 1) := by decide +kernel
theorem dX5_hasBone_17 : decode cX5_hasBone 17 = .ok (.ireturn, 1) := by decide +kernel
theorem dX5_curveOf_0 : decode cX5_curveOf 0 = .ok (.aload_n 0, 1) := by decide +kernel
theorem dX5_curveOf_1 : decode cX5_curveOf 1 = .ok (.iload_n 1, 1) := by decide +kernel
theorem dX5_curveOf_2 : decode cX5_curveOf 2 = .ok (.invokevirtual 25, 3) := by decide +kernel
theorem dX5_curveOf_5 : decode cX5_curveOf 5 = .ok (.ifCond .eq 12, 3) := by decide +kernel
theorem dX5_curveOf_8 : decode cX5_curveOf 8 = .ok (.aload_n 0, 1) := by decide +kernel
theorem dX5_curveOf_9 : decode cX5_curveOf 9 = .ok (.getfield 17, 3) := by decide +kernel
theorem dX5_curveOf_12 : decode cX5_curveOf 12 = .ok (.iload_n 1, 1) := by decide +kernel
theorem dX5_curveOf_13 : decode cX5_curveOf 13 = .ok (.aaload, 1) := by decide +kernel
theorem dX5_curveOf_14 : decode cX5_curveOf 14 = .ok (.goto 4, 3) := by decide +kernel
theorem dX5_curveOf_17 : decode cX5_curveOf 17 = .ok (.aconst_null, 1) := by decide +kernel
theorem dX5_curveOf_18 : decode cX5_curveOf 18 = .ok (.areturn, 1) := by decide +kernel
theorem dX5_addBone_0 : decode cX5_addBone 0 = .ok (.aload_n 0, 1) := by decide +kernel
theorem dX5_addBone_1 : decode cX5_addBone 1 = .ok (.iload_n 1, 1) := by decide +kernel
theorem dX5_addBone_2 : decode cX5_addBone 2 = .ok (.new 15, 3) := by decide +kernel
theorem dX5_addBone_5 : decode cX5_addBone 5 = .ok (.dup, 1) := by decide +kernel
theorem dX5_addBone_6 : decode cX5_addBone 6 = .ok (.invokespecial 29, 3) := by decide +kernel
theorem dX5_addBone_9 : decode cX5_addBone 9 = .ok (.invokevirtual 30, 3) := by decide +kernel
theorem dX5_addBone_12 : decode cX5_addBone 12 = .ok (.ireturn, 1) := by decide +kernel
theorem dX5_append_0 : decode cX5_append 0 = .ok (.aload_n 0, 1) := by decide +kernel
theorem dX5_append_1 : decode cX5_append 1 = .ok (.getfield 21, 3) := by decide +kernel
theorem dX5_append_4 : decode cX5_append 4 = .ok (.bipush 10, 2) := by decide +kernel
theorem dX5_append_6 : decode cX5_append 6 = .ok (.if_icmp .lt 5, 3) := by decide +kernel
theorem dX5_append_9 : decode cX5_append 9 = .ok (.iconst (-1), 1) := by decide +kernel
theorem dX5_append_10 : decode cX5_append 10 = .ok (.ireturn, 1) := by decide +kernel
theorem dX5_append_11 : decode cX5_append 11 = .ok (.aload_n 0, 1) := by decide +kernel
theorem dX5_append_12 : decode cX5_append 12 = .ok (.getfield 9, 3) := by decide +kernel
theorem dX5_append_15 : decode cX5_append 15 = .ok (.aload_n 0, 1) := by decide +kernel
theorem dX5_append_16 : decode cX5_append 16 = .ok (.getfield 21, 3) := by decide +kernel
theorem dX5_append_19 : decode cX5_append 19 = .ok (.iload_n 1, 1) := by decide +kernel
theorem dX5_append_20 : decode cX5_append 20 = .ok (.iastore, 1) := by decide +kernel
theorem dX5_append_21 : decode cX5_append 21 = .ok (.aload_n 0, 1) := by decide +kernel
theorem dX5_append_22 : decode cX5_append 22 = .ok (.getfield 17, 3) := by decide +kernel
theorem dX5_append_25 : decode cX5_append 25 = .ok (.aload_n 0, 1) := by decide +kernel
theorem dX5_append_26 : decode cX5_append 26 = .ok (.getfield 21, 3) := by decide +kernel
theorem dX5_append_29 : decode cX5_append 29 = .ok (.aload_n 2, 1) := by decide +kernel
theorem dX5_append_30 : decode cX5_append 30 = .ok (.aastore, 1) := by decide +kernel
theorem dX5_append_31 : decode cX5_append 31 = .ok (.aload_n 0, 1) := by decide +kernel
theorem dX5_append_32 : decode cX5_append 32 = .ok (.dup, 1) := by decide +kernel
theorem dX5_append_33 : decode cX5_append 33 = .ok (.getfield 21, 3) := by decide +kernel
theorem dX5_append_36 : decode cX5_append 36 = .ok (.dup_x1, 1) := by decide +kernel
theorem dX5_append_37 : decode cX5_append 37 = .ok (.iconst 1, 1) := by decide +kernel
theorem dX5_append_38 : decode cX5_append 38 = .ok (.iadd, 1) := by decide +kernel
theorem dX5_append_39 : decode cX5_append 39 = .ok (.putfield 21, 3) := by decide +kernel
theorem dX5_append_42 : decode cX5_append 42 = .ok (.ireturn, 1) := by decide +kernel
theorem dX5_ownValue_0 : decode cX5_ownValue 0 = .ok (.aload_n 0, 1) := by decide +kernel
theorem dX5_ownValue_1 : decode cX5_ownValue 1 = .ok (.iload_n 1, 1) := by decide +kernel
theorem dX5_ownValue_2 : decode cX5_ownValue 2 = .ok (.invokevirtual 34, 3) := by decide +kernel
theorem dX5_ownValue_5 : decode cX5_ownValue 5 = .ok (.astore_n 3, 1) := by decide +kernel
theorem dX5_ownValue_6 : decode cX5_ownValue 6 = .ok (.aload_n 3, 1) := by decide +kernel
theorem dX5_ownValue_7 : decode cX5_ownValue 7 = .ok (.ifnonnull 7, 3) := by decide +kernel
theorem dX5_ownValue_10 : decode cX5_ownValue 10 = .ok (.iconst 0, 1) := by decide +kernel
theorem dX5_ownValue_11 : decode cX5_ownValue 11 = .ok (.goto 8, 3) := by decide +kernel
theorem dX5_ownValue_14 : decode cX5_ownValue 14 = .ok (.aload_n 3, 1) := by decide +kernel
theorem dX5_ownValue_15 : decode cX5_ownValue 15 = .ok (.iload_n 2, 1) := by decide +kernel
theorem dX5_ownValue_16 : decode cX5_ownValue 16 = .ok (.invokevirtual 38, 3) := by decide +kernel
theorem dX5_ownValue_19 : decode cX5_ownValue 19 = .ok (.ireturn, 1) := by decide +kernel
theorem dX5_poseUpwards_0 : decode cX5_poseUpwards 0 = .ok (.iconst 0, 1) := by decide +kernel
theorem dX5_poseUpwards_1 : decode cX5_poseUpwards 1 = .ok (.istore_n 3, 1) := by decide +kernel
theorem dX5_poseUpwards_2 : decode cX5_poseUpwards 2 = .ok (.iload_n 1, 1) := by decide +kernel
theorem dX5_poseUpwards_3 : decode cX5_poseUpwards 3 = .ok (.istore 4, 2) := by decide +kernel
theorem dX5_poseUpwards_5 : decode cX5_poseUpwards 5 = .ok (.iconst 0, 1) := by decide +kernel
theorem dX5_poseUpwards_6 : decode cX5_poseUpwards 6 = .ok (.istore 5, 2) := by decide +kernel
theorem dX5_poseUpwards_8 : decode cX5_poseUpwards 8 = .ok (.iload 5, 2) := by decide +kernel
theorem dX5_poseUpwards_10 : decode cX5_poseUpwards 10 = .ok (.bipush 10, 2) := by decide +kernel
theorem dX5_poseUpwards_12 : decode cX5_poseUpwards 12 = .ok (.if_icmp .ge 37, 3) := by decide +kernel
theorem dX5_poseUpwards_15 : decode cX5_poseUpwards 15 = .ok (.aload_n 0, 1) := by decide +kernel
theorem dX5_poseUpwards_16 : decode cX5_poseUpwards 16 = .ok (.iload 4, 2) := by decide +kernel
theorem dX5_poseUpwards_18 : decode cX5_poseUpwards 18 = .ok (.invokevirtual 25, 3) := by decide +kernel
theorem dX5_poseUpwards_21 : decode cX5_poseUpwards 21 = .ok (.ifCond .eq 28, 3) := by decide +kernel
theorem dX5_poseUpwards_24 : decode cX5_poseUpwards 24 = .ok (.iload_n 3, 1) := by decide +kernel
theorem dX5_poseUpwards_25 : decode cX5_poseUpwards 25 = .ok (.aload_n 0, 1) := by decide +kernel
theorem dX5_poseUpwards_26 : decode cX5_poseUpwards 26 = .ok (.iload 4, 2) := by decide +kernel
theorem dX5_poseUpwards_28 : decode cX5_poseUpwards 28 = .ok (.iload_n 2, 1) := by decide +kernel
theorem dX5_poseUpwards_29 : decode cX5_poseUpwards 29 = .ok (.invokevirtual 42, 3) := by decide +kernel
theorem dX5_poseUpwards_32 : decode cX5_poseUpwards 32 = .ok (.iadd, 1) := by decide +kernel
theorem dX5_poseUpwards_33 : decode cX5_poseUpwards 33 = .ok (.istore_n 3, 1) := by decide +kernel
theorem dX5_poseUpwards_34 : decode cX5_poseUpwards 34 = .ok (.aload_n 0, 1) := by decide +kernel
theorem dX5_poseUpwards_35 : decode cX5_poseUpwards 35 = .ok (.getfield 9, 3) := by decide +kernel
theorem dX5_poseUpwards_38 : decode cX5_poseUpwards 38 = .ok (.iload 4, 2) := by decide +kernel
theorem dX5_poseUpwards_40 : decode cX5_poseUpwards 40 = .ok (.iaload, 1) := by decide +kernel
theorem dX5_poseUpwards_41 : decode cX5_poseUpwards 41 = .ok (.istore 4, 2) := by decide +kernel
theorem dX5_poseUpwards_43 : decode cX5_poseUpwards 43 = .ok (.iinc 5 1, 3) := by decide +kernel
theorem dX5_poseUpwards_46 : decode cX5_poseUpwards 46 = .ok (.goto (-38), 3) := by decide +kernel
theorem dX5_poseUpwards_49 : decode cX5_poseUpwards 49 = .ok (.iload_n 3, 1) := by decide +kernel
theorem dX5_poseUpwards_50 : decode cX5_poseUpwards 50 = .ok (.ireturn, 1) := by decide +kernel
theorem dX5_poseAt_0 : decode cX5_poseAt 0 = .ok (.aload_n 0, 1) := by decide +kernel
theorem dX5_poseAt_1 : decode cX5_poseAt 1 = .ok (.getfield 46, 3) := by decide +kernel
theorem dX5_poseAt_4 : decode cX5_poseAt 4 = .ok (.ifnull 18, 3) := by decide +kernel
theorem dX5_poseAt_7 : decode cX5_poseAt 7 = .ok (.aload_n 0, 1) := by decide +kernel
theorem dX5_poseAt_8 : decode cX5_poseAt 8 = .ok (.iload_n 1, 1) := by decide +kernel
theorem dX5_poseAt_9 : decode cX5_poseAt 9 = .ok (.invokevirtual 25, 3) := by decide +kernel
theorem dX5_poseAt_12 : decode cX5_poseAt 12 = .ok (.ifCond .eq 10, 3) := by decide +kernel
theorem dX5_poseAt_15 : decode cX5_poseAt 15 = .ok (.iload_n 2, 1) := by decide +kernel
theorem dX5_poseAt_16 : decode cX5_poseAt 16 = .ok (.invokestatic 49, 3) := by decide +kernel
theorem dX5_poseAt_19 : decode cX5_poseAt 19 = .ok (.ifCond .ne 10, 3) := by decide +kernel
theorem dX5_poseAt_22 : decode cX5_poseAt 22 = .ok (.aload_n 0, 1) := by decide +kernel
theorem dX5_poseAt_23 : decode cX5_poseAt 23 = .ok (.iload_n 1, 1) := by decide +kernel
theorem dX5_poseAt_24 : decode cX5_poseAt 24 = .ok (.iload_n 2, 1) := by decide +kernel
theorem dX5_poseAt_25 : decode cX5_poseAt 25 = .ok (.invokevirtual 52, 3) := by decide +kernel
theorem dX5_poseAt_28 : decode cX5_poseAt 28 = .ok (.ireturn, 1) := by decide +kernel
theorem dX5_poseAt_29 : decode cX5_poseAt 29 = .ok (.aload_n 0, 1) := by decide +kernel
theorem dX5_poseAt_30 : decode cX5_poseAt 30 = .ok (.getfield 46, 3) := by decide +kernel
theorem dX5_poseAt_33 : decode cX5_poseAt 33 = .ok (.iload_n 2, 1) := by decide +kernel
theorem dX5_poseAt_34 : decode cX5_poseAt 34 = .ok (.aload_n 0, 1) := by decide +kernel
theorem dX5_poseAt_35 : decode cX5_poseAt 35 = .ok (.getfield 21, 3) := by decide +kernel
theorem dX5_poseAt_38 : decode cX5_poseAt 38 = .ok (.imul, 1) := by decide +kernel
theorem dX5_poseAt_39 : decode cX5_poseAt 39 = .ok (.iload_n 1, 1) := by decide +kernel
theorem dX5_poseAt_40 : decode cX5_poseAt 40 = .ok (.iadd, 1) := by decide +kernel
theorem dX5_poseAt_41 : decode cX5_poseAt 41 = .ok (.iaload, 1) := by decide +kernel
theorem dX5_poseAt_42 : decode cX5_poseAt 42 = .ok (.ireturn, 1) := by decide +kernel
theorem dX5_looksLike_0 : decode cX5_looksLike 0 = .ok (.aload_n 1, 1) := by decide +kernel
theorem dX5_looksLike_1 : decode cX5_looksLike 1 = .ok (.getfield 46, 3) := by decide +kernel
theorem dX5_looksLike_4 : decode cX5_looksLike 4 = .ok (.astore_n 3, 1) := by decide +kernel
theorem dX5_looksLike_5 : decode cX5_looksLike 5 = .ok (.aload_n 0, 1) := by decide +kernel
theorem dX5_looksLike_6 : decode cX5_looksLike 6 = .ok (.getfield 46, 3) := by decide +kernel
theorem dX5_looksLike_9 : decode cX5_looksLike 9 = .ok (.ifnull 25, 3) := by decide +kernel
theorem dX5_looksLike_12 : decode cX5_looksLike 12 = .ok (.aload_n 3, 1) := by decide +kernel
theorem dX5_looksLike_13 : decode cX5_looksLike 13 = .ok (.ifnull 21, 3) := by decide +kernel
theorem dX5_looksLike_16 : decode cX5_looksLike 16 = .ok (.aload_n 0, 1) := by decide +kernel
theorem dX5_looksLike_17 : decode cX5_looksLike 17 = .ok (.getfield 21, 3) := by decide +kernel
theorem dX5_looksLike_20 : decode cX5_looksLike 20 = .ok (.aload_n 1, 1) := by decide +kernel
theorem dX5_looksLike_21 : decode cX5_looksLike 21 = .ok (.getfield 21, 3) := by decide +kernel
theorem dX5_looksLike_24 : decode cX5_looksLike 24 = .ok (.if_icmp .ne 10, 3) := by decide +kernel
theorem dX5_looksLike_27 : decode cX5_looksLike 27 = .ok (.iload_n 2, 1) := by decide +kernel
theorem dX5_looksLike_28 : decode cX5_looksLike 28 = .ok (.invokestatic 49, 3) := by decide +kernel
theorem dX5_looksLike_31 : decode cX5_looksLike 31 = .ok (.ifCond .ne 5, 3) := by decide +kernel
theorem dX5_looksLike_34 : decode cX5_looksLike 34 = .ok (.iconst 0, 1) := by decide +kernel
theorem dX5_looksLike_35 : decode cX5_looksLike 35 = .ok (.ireturn, 1) := by decide +kernel
theorem dX5_looksLike_36 : decode cX5_looksLike 36 = .ok (.iload_n 2, 1) := by decide +kernel
theorem dX5_looksLike_37 : decode cX5_looksLike 37 = .ok (.aload_n 0, 1) := by decide +kernel
theorem dX5_looksLike_38 : decode cX5_looksLike 38 = .ok (.getfield 21, 3) := by decide +kernel
theorem dX5_looksLike_41 : decode cX5_looksLike 41 = .ok (.imul, 1) := by decide +kernel
theorem dX5_looksLike_42 : decode cX5_looksLike 42 = .ok (.istore 4, 2) := by decide +kernel
theorem dX5_looksLike_44 : decode cX5_looksLike 44 = .ok (.iload 4, 2) := by decide +kernel
theorem dX5_looksLike_46 : decode cX5_looksLike 46 = .ok (.iload_n 2, 1) := by decide +kernel
theorem dX5_looksLike_47 : decode cX5_looksLike 47 = .ok (.iconst 1, 1) := by decide +kernel
theorem dX5_looksLike_48 : decode cX5_looksLike 48 = .ok (.iadd, 1) := by decide +kernel
theorem dX5_looksLike_49 : decode cX5_looksLike 49 = .ok (.aload_n 0, 1) := by decide +kernel
theorem dX5_looksLike_50 : decode cX5_looksLike 50 = .ok (.getfield 21, 3) := by decide +kernel
theorem dX5_looksLike_53 : decode cX5_looksLike 53 = .ok (.imul, 1) := by decide +kernel
theorem dX5_looksLike_54 : decode cX5_looksLike 54 = .ok (.if_icmp .ge 25, 3) := by decide +kernel
theorem dX5_looksLike_57 : decode cX5_looksLike 57 = .ok (.aload_n 0, 1) := by decide +kernel
theorem dX5_looksLike_58 : decode cX5_looksLike 58 = .ok (.getfield 46, 3) := by decide +kernel
theorem dX5_looksLike_61 : decode cX5_looksLike 61 = .ok (.iload 4, 2) := by decide +kernel
theorem dX5_looksLike_63 : decode cX5_looksLike 63 = .ok (.iaload, 1) := by decide +kernel
theorem dX5_looksLike_64 : decode cX5_looksLike 64 = .ok (.aload_n 3, 1) := by decide +kernel
theorem dX5_looksLike_65 : decode cX5_looksLike 65 = .ok (.iload 4, 2) := by decide +kernel
theorem dX5_looksLike_67 : decode cX5_looksLike 67 = .ok (.iaload, 1) := by decide +kernel
theorem dX5_looksLike_68 : decode cX5_looksLike 68 = .ok (.if_icmp .eq 5, 3) := by decide +kernel
theorem dX5_looksLike_71 : decode cX5_looksLike 71 = .ok (.iconst 0, 1) := by decide +kernel
theorem dX5_looksLike_72 : decode cX5_looksLike 72 = .ok (.ireturn, 1) := by decide +kernel
theorem dX5_looksLike_73 : decode cX5_looksLike 73 = .ok (.iinc 4 1, 3) := by decide +kernel
theorem dX5_looksLike_76 : decode cX5_looksLike 76 = .ok (.goto (-32), 3) := by decide +kernel
theorem dX5_looksLike_79 : decode cX5_looksLike 79 = .ok (.iconst 1, 1) := by decide +kernel
theorem dX5_looksLike_80 : decode cX5_looksLike 80 = .ok (.ireturn, 1) := by decide +kernel
theorem dX5_versionOfIt_0 : decode cX5_versionOfIt 0 = .ok (.new 10, 3) := by decide +kernel
theorem dX5_versionOfIt_3 : decode cX5_versionOfIt 3 = .ok (.dup, 1) := by decide +kernel
theorem dX5_versionOfIt_4 : decode cX5_versionOfIt 4 = .ok (.invokespecial 55, 3) := by decide +kernel
theorem dX5_versionOfIt_7 : decode cX5_versionOfIt 7 = .ok (.astore_n 1, 1) := by decide +kernel
theorem dX5_versionOfIt_8 : decode cX5_versionOfIt 8 = .ok (.iconst 0, 1) := by decide +kernel
theorem dX5_versionOfIt_9 : decode cX5_versionOfIt 9 = .ok (.istore_n 2, 1) := by decide +kernel
theorem dX5_versionOfIt_10 : decode cX5_versionOfIt 10 = .ok (.iload_n 2, 1) := by decide +kernel
theorem dX5_versionOfIt_11 : decode cX5_versionOfIt 11 = .ok (.aload_n 0, 1) := by decide +kernel
theorem dX5_versionOfIt_12 : decode cX5_versionOfIt 12 = .ok (.getfield 21, 3) := by decide +kernel
theorem dX5_versionOfIt_15 : decode cX5_versionOfIt 15 = .ok (.if_icmp .ge 34, 3) := by decide +kernel
theorem dX5_versionOfIt_18 : decode cX5_versionOfIt 18 = .ok (.aload_n 0, 1) := by decide +kernel
theorem dX5_versionOfIt_19 : decode cX5_versionOfIt 19 = .ok (.iload_n 2, 1) := by decide +kernel
theorem dX5_versionOfIt_20 : decode cX5_versionOfIt 20 = .ok (.invokevirtual 34, 3) := by decide +kernel
theorem dX5_versionOfIt_23 : decode cX5_versionOfIt 23 = .ok (.astore_n 3, 1) := by decide +kernel
theorem dX5_versionOfIt_24 : decode cX5_versionOfIt 24 = .ok (.aload_n 3, 1) := by decide +kernel
theorem dX5_versionOfIt_25 : decode cX5_versionOfIt 25 = .ok (.ifnull 18, 3) := by decide +kernel
theorem dX5_versionOfIt_28 : decode cX5_versionOfIt 28 = .ok (.aload_n 1, 1) := by decide +kernel
theorem dX5_versionOfIt_29 : decode cX5_versionOfIt 29 = .ok (.aload_n 0, 1) := by decide +kernel
theorem dX5_versionOfIt_30 : decode cX5_versionOfIt 30 = .ok (.getfield 9, 3) := by decide +kernel
theorem dX5_versionOfIt_33 : decode cX5_versionOfIt 33 = .ok (.iload_n 2, 1) := by decide +kernel
theorem dX5_versionOfIt_34 : decode cX5_versionOfIt 34 = .ok (.iaload, 1) := by decide +kernel
theorem dX5_versionOfIt_35 : decode cX5_versionOfIt 35 = .ok (.aload_n 3, 1) := by decide +kernel
theorem dX5_versionOfIt_36 : decode cX5_versionOfIt 36 = .ok (.invokevirtual 56, 3) := by decide +kernel
theorem dX5_versionOfIt_39 : decode cX5_versionOfIt 39 = .ok (.invokevirtual 30, 3) := by decide +kernel
theorem dX5_versionOfIt_42 : decode cX5_versionOfIt 42 = .ok (.pop, 1) := by decide +kernel
theorem dX5_versionOfIt_43 : decode cX5_versionOfIt 43 = .ok (.iinc 2 1, 3) := by decide +kernel
theorem dX5_versionOfIt_46 : decode cX5_versionOfIt 46 = .ok (.goto (-36), 3) := by decide +kernel
theorem dX5_versionOfIt_49 : decode cX5_versionOfIt 49 = .ok (.aload_n 1, 1) := by decide +kernel
theorem dX5_versionOfIt_50 : decode cX5_versionOfIt 50 = .ok (.invokevirtual 60, 3) := by decide +kernel
theorem dX5_versionOfIt_53 : decode cX5_versionOfIt 53 = .ok (.aload_n 1, 1) := by decide +kernel
theorem dX5_versionOfIt_54 : decode cX5_versionOfIt 54 = .ok (.areturn, 1) := by decide +kernel
theorem dX5_fixPoses_0 : decode cX5_fixPoses 0 = .ok (.bipush 40, 2) := by decide +kernel
theorem dX5_fixPoses_2 : decode cX5_fixPoses 2 = .ok (.aload_n 0, 1) := by decide +kernel
theorem dX5_fixPoses_3 : decode cX5_fixPoses 3 = .ok (.getfield 21, 3) := by decide +kernel
theorem dX5_fixPoses_6 : decode cX5_fixPoses 6 = .ok (.imul, 1) := by decide +kernel
theorem dX5_fixPoses_7 : decode cX5_fixPoses 7 = .ok (.newarray .int, 2) := by decide +kernel
theorem dX5_fixPoses_9 : decode cX5_fixPoses 9 = .ok (.astore_n 1, 1) := by decide +kernel
theorem dX5_fixPoses_10 : decode cX5_fixPoses 10 = .ok (.iconst 0, 1) := by decide +kernel
theorem dX5_fixPoses_11 : decode cX5_fixPoses 11 = .ok (.istore_n 2, 1) := by decide +kernel
theorem dX5_fixPoses_12 : decode cX5_fixPoses 12 = .ok (.iload_n 2, 1) := by decide +kernel
theorem dX5_fixPoses_13 : decode cX5_fixPoses 13 = .ok (.bipush 40, 2) := by decide +kernel
theorem dX5_fixPoses_15 : decode cX5_fixPoses 15 = .ok (.if_icmp .ge 80, 3) := by decide +kernel
theorem dX5_fixPoses_18 : decode cX5_fixPoses 18 = .ok (.iload_n 2, 1) := by decide +kernel
theorem dX5_fixPoses_19 : decode cX5_fixPoses 19 = .ok (.aload_n 0, 1) := by decide +kernel
theorem dX5_fixPoses_20 : decode cX5_fixPoses 20 = .ok (.getfield 21, 3) := by decide +kernel
theorem dX5_fixPoses_23 : decode cX5_fixPoses 23 = .ok (.imul, 1) := by decide +kernel
theorem dX5_fixPoses_24 : decode cX5_fixPoses 24 = .ok (.istore_n 3, 1) := by decide +kernel
theorem dX5_fixPoses_25 : decode cX5_fixPoses 25 = .ok (.iconst 0, 1) := by decide +kernel
theorem dX5_fixPoses_26 : decode cX5_fixPoses 26 = .ok (.istore 4, 2) := by decide +kernel
theorem dX5_fixPoses_28 : decode cX5_fixPoses 28 = .ok (.iload 4, 2) := by decide +kernel
theorem dX5_fixPoses_30 : decode cX5_fixPoses 30 = .ok (.aload_n 0, 1) := by decide +kernel
theorem dX5_fixPoses_31 : decode cX5_fixPoses 31 = .ok (.getfield 21, 3) := by decide +kernel
theorem dX5_fixPoses_34 : decode cX5_fixPoses 34 = .ok (.if_icmp .ge 55, 3) := by decide +kernel
theorem dX5_fixPoses_37 : decode cX5_fixPoses 37 = .ok (.aload_n 0, 1) := by decide +kernel
theorem dX5_fixPoses_38 : decode cX5_fixPoses 38 = .ok (.getfield 9, 3) := by decide +kernel
theorem dX5_fixPoses_41 : decode cX5_fixPoses 41 = .ok (.iload 4, 2) := by decide +kernel
theorem dX5_fixPoses_43 : decode cX5_fixPoses 43 = .ok (.iaload, 1) := by decide +kernel
theorem dX5_fixPoses_44 : decode cX5_fixPoses 44 = .ok (.istore 5, 2) := by decide +kernel
theorem dX5_fixPoses_46 : decode cX5_fixPoses 46 = .ok (.aload_n 0, 1) := by decide +kernel
theorem dX5_fixPoses_47 : decode cX5_fixPoses 47 = .ok (.iload 5, 2) := by decide +kernel
theorem dX5_fixPoses_49 : decode cX5_fixPoses 49 = .ok (.invokevirtual 25, 3) := by decide +kernel
theorem dX5_fixPoses_52 : decode cX5_fixPoses 52 = .ok (.ifCond .eq 12, 3) := by decide +kernel
theorem dX5_fixPoses_55 : decode cX5_fixPoses 55 = .ok (.aload_n 1, 1) := by decide +kernel
theorem dX5_fixPoses_56 : decode cX5_fixPoses 56 = .ok (.iload_n 3, 1) := by decide +kernel
theorem dX5_fixPoses_57 : decode cX5_fixPoses 57 = .ok (.iload 5, 2) := by decide +kernel
theorem dX5_fixPoses_59 : decode cX5_fixPoses 59 = .ok (.iadd, 1) := by decide +kernel
theorem dX5_fixPoses_60 : decode cX5_fixPoses 60 = .ok (.iaload, 1) := by decide +kernel
theorem dX5_fixPoses_61 : decode cX5_fixPoses 61 = .ok (.goto 4, 3) := by decide +kernel
theorem dX5_fixPoses_64 : decode cX5_fixPoses 64 = .ok (.iconst 0, 1) := by decide +kernel
theorem dX5_fixPoses_65 : decode cX5_fixPoses 65 = .ok (.istore 6, 2) := by decide +kernel
theorem dX5_fixPoses_67 : decode cX5_fixPoses 67 = .ok (.aload_n 1, 1) := by decide +kernel
theorem dX5_fixPoses_68 : decode cX5_fixPoses 68 = .ok (.iload_n 3, 1) := by decide +kernel
theorem dX5_fixPoses_69 : decode cX5_fixPoses 69 = .ok (.iload 4, 2) := by decide +kernel
theorem dX5_fixPoses_71 : decode cX5_fixPoses 71 = .ok (.iadd, 1) := by decide +kernel
theorem dX5_fixPoses_72 : decode cX5_fixPoses 72 = .ok (.iload 6, 2) := by decide +kernel
theorem dX5_fixPoses_74 : decode cX5_fixPoses 74 = .ok (.aload_n 0, 1) := by decide +kernel
theorem dX5_fixPoses_75 : decode cX5_fixPoses 75 = .ok (.iload 4, 2) := by decide +kernel
theorem dX5_fixPoses_77 : decode cX5_fixPoses 77 = .ok (.iload_n 2, 1) := by decide +kernel
theorem dX5_fixPoses_78 : decode cX5_fixPoses 78 = .ok (.invokevirtual 42, 3) := by decide +kernel
theorem dX5_fixPoses_81 : decode cX5_fixPoses 81 = .ok (.iadd, 1) := by decide +kernel
theorem dX5_fixPoses_82 : decode cX5_fixPoses 82 = .ok (.iastore, 1) := by decide +kernel
theorem dX5_fixPoses_83 : decode cX5_fixPoses 83 = .ok (.iinc 4 1, 3) := by decide +kernel
theorem dX5_fixPoses_86 : decode cX5_fixPoses 86 = .ok (.goto (-58), 3) := by decide +kernel
theorem dX5_fixPoses_89 : decode cX5_fixPoses 89 = .ok (.iinc 2 1, 3) := by decide +kernel
theorem dX5_fixPoses_92 : decode cX5_fixPoses 92 = .ok (.goto (-80), 3) := by decide +kernel
theorem dX5_fixPoses_95 : decode cX5_fixPoses 95 = .ok (.aload_n 0, 1) := by decide +kernel
theorem dX5_fixPoses_96 : decode cX5_fixPoses 96 = .ok (.aload_n 1, 1) := by decide +kernel
theorem dX5_fixPoses_97 : decode cX5_fixPoses 97 = .ok (.putfield 46, 3) := by decide +kernel
theorem dX5_fixPoses_100 : decode cX5_fixPoses 100 = .ok (.return_, 1) := by decide +kernel
theorem dX6_init_0 : decode cX6_init 0 = .ok (.aload_n 0, 1) := by decide +kernel
theorem dX6_init_1 : decode cX6_init 1 = .ok (.invokespecial 3, 3) := by decide +kernel
theorem dX6_init_4 : decode cX6_init 4 = .ok (.aload_n 0, 1) := by decide +kernel
theorem dX6_init_5 : decode cX6_init 5 = .ok (.bipush 40, 2) := by decide +kernel
theorem dX6_init_7 : decode cX6_init 7 = .ok (.anewarray 9, 3) := by decide +kernel
theorem dX6_init_10 : decode cX6_init 10 = .ok (.putfield 11, 3) := by decide +kernel
theorem dX6_init_13 : decode cX6_init 13 = .ok (.aload_n 0, 1) := by decide +kernel
theorem dX6_init_14 : decode cX6_init 14 = .ok (.bipush 8, 2) := by decide +kernel
theorem dX6_init_16 : decode cX6_init 16 = .ok (.anewarray 17, 3) := by decide +kernel
theorem dX6_init_19 : decode cX6_init 19 = .ok (.putfield 19, 3) := by decide +kernel
theorem dX6_init_22 : decode cX6_init 22 = .ok (.iconst 0, 1) := by decide +kernel
theorem dX6_init_23 : decode cX6_init 23 = .ok (.istore_n 2, 1) := by decide +kernel
theorem dX6_init_24 : decode cX6_init 24 = .ok (.iload_n 2, 1) := by decide +kernel
theorem dX6_init_25 : decode cX6_init 25 = .ok (.iload_n 1, 1) := by decide +kernel
theorem dX6_init_26 : decode cX6_init 26 = .ok (.if_icmp .ge 39, 3) := by decide +kernel
theorem dX6_init_29 : decode cX6_init 29 = .ok (.iload_n 2, 1) := by decide +kernel
theorem dX6_init_30 : decode cX6_init 30 = .ok (.bipush 40, 2) := by decide +kernel
theorem dX6_init_32 : decode cX6_init 32 = .ok (.if_icmp .ge 33, 3) := by decide +kernel
theorem dX6_init_35 : decode cX6_init 35 = .ok (.aload_n 0, 1) := by decide +kernel
theorem dX6_init_36 : decode cX6_init 36 = .ok (.getfield 11, 3) := by decide +kernel
theorem dX6_init_39 : decode cX6_init 39 = .ok (.iload_n 2, 1) := by decide +kernel
theorem dX6_init_40 : decode cX6_init 40 = .ok (.new 9, 3) := by decide +kernel
theorem dX6_init_43 : decode cX6_init 43 = .ok (.dup, 1) := by decide +kernel
theorem dX6_init_44 : decode cX6_init 44 = .ok (.iload_n 2, 1) := by decide +kernel
theorem dX6_init_45 : decode cX6_init 45 = .ok (.invokespecial 23, 3) := by decide +kernel
theorem dX6_init_48 : decode cX6_init 48 = .ok (.aastore, 1) := by decide +kernel
theorem dX6_init_49 : decode cX6_init 49 = .ok (.aload_n 0, 1) := by decide +kernel
theorem dX6_init_50 : decode cX6_init 50 = .ok (.dup, 1) := by decide +kernel
theorem dX6_init_51 : decode cX6_init 51 = .ok (.getfield 26, 3) := by decide +kernel
theorem dX6_init_54 : decode cX6_init 54 = .ok (.iconst 1, 1) := by decide +kernel
theorem dX6_init_55 : decode cX6_init 55 = .ok (.iadd, 1) := by decide +kernel
theorem dX6_init_56 : decode cX6_init 56 = .ok (.putfield 26, 3) := by decide +kernel
theorem dX6_init_59 : decode cX6_init 59 = .ok (.iinc 2 1, 3) := by decide +kernel
theorem dX6_init_62 : decode cX6_init 62 = .ok (.goto (-38), 3) := by decide +kernel
theorem dX6_init_65 : decode cX6_init 65 = .ok (.return_, 1) := by decide +kernel
theorem dX6_hasFrame_0 : decode cX6_hasFrame 0 = .ok (.iload_n 1, 1) := by decide +kernel
theorem dX6_hasFrame_1 : decode cX6_hasFrame 1 = .ok (.ifCond .lt 15, 3) := by decide +kernel
theorem dX6_hasFrame_4 : decode cX6_hasFrame 4 = .ok (.iload_n 1, 1) := by decide +kernel
theorem dX6_hasFrame_5 : decode cX6_hasFrame 5 = .ok (.aload_n 0, 1) := by decide +kernel
theorem dX6_hasFrame_6 : decode cX6_hasFrame 6 = .ok (.getfield 26, 3) := by decide +kernel
theorem dX6_hasFrame_9 : decode cX6_hasFrame 9 = .ok (.if_icmp .ge 7, 3) := by decide +kernel
theorem dX6_hasFrame_12 : decode cX6_hasFrame 12 = .ok (.iconst 1, 1) := by decide +kernel
theorem dX6_hasFrame_13 : decode cX6_hasFrame 13 = .ok (.goto 4, 3) := by decide +kernel
theorem dX6_hasFrame_16 : decode cX6_hasFrame 16 = .ok (.iconst 0, 1) := by decide +kernel
theorem dX6_hasFrame_17 : decode cX6_hasFrame 17 = .ok (.ireturn, 1) := by decide +kernel
theorem dX6_frameAt_0 : decode cX6_frameAt 0 = .ok (.aload_n 0, 1) := by decide +kernel
theorem dX6_frameAt_1 : decode cX6_frameAt 1 = .ok (.iload_n 1, 1) := by decide +kernel
theorem dX6_frameAt_2 : decode cX6_frameAt 2 = .ok (.invokevirtual 30, 3) := by decide +kernel
theorem dX6_frameAt_5 : decode cX6_frameAt 5 = .ok (.ifCond .eq 12, 3) := by decide +kernel
theorem dX6_frameAt_8 : decode cX6_frameAt 8 = .ok (.aload_n 0, 1) := by decide +kernel
theorem dX6_frameAt_9 : decode cX6_frameAt 9 = .ok (.getfield 11, 3) := by decide +kernel
theorem dX6_frameAt_12 : decode cX6_frameAt 12 = .ok (.iload_n 1, 1) := by decide +kernel
theorem dX6_frameAt_13 : decode cX6_frameAt 13 = .ok (.aaload, 1) := by decide +kernel
theorem dX6_frameAt_14 : decode cX6_frameAt 14 = .ok (.goto 4, 3) := by decide +kernel
theorem dX6_frameAt_17 : decode cX6_frameAt 17 = .ok (.aconst_null, 1) := by decide +kernel
theorem dX6_frameAt_18 : decode cX6_frameAt 18 = .ok (.areturn, 1) := by decide +kernel
theorem dX6_castingOf_0 : decode cX6_castingOf 0 = .ok (.iload_n 1, 1) := by decide +kernel
theorem dX6_castingOf_1 : decode cX6_castingOf 1 = .ok (.ifCond .lt 9, 3) := by decide +kernel
theorem dX6_castingOf_4 : decode cX6_castingOf 4 = .ok (.iload_n 1, 1) := by decide +kernel
theorem dX6_castingOf_5 : decode cX6_castingOf 5 = .ok (.bipush 8, 2) := by decide +kernel
theorem dX6_castingOf_7 : decode cX6_castingOf 7 = .ok (.if_icmp .lt 7, 3) := by decide +kernel
theorem dX6_castingOf_10 : decode cX6_castingOf 10 = .ok (.aconst_null, 1) := by decide +kernel
theorem dX6_castingOf_11 : decode cX6_castingOf 11 = .ok (.goto 9, 3) := by decide +kernel
theorem dX6_castingOf_14 : decode cX6_castingOf 14 = .ok (.aload_n 0, 1) := by decide +kernel
theorem dX6_castingOf_15 : decode cX6_castingOf 15 = .ok (.getfield 19, 3) := by decide +kernel
theorem dX6_castingOf_18 : decode cX6_castingOf 18 = .ok (.iload_n 1, 1) := by decide +kernel
theorem dX6_castingOf_19 : decode cX6_castingOf 19 = .ok (.aaload, 1) := by decide +kernel
theorem dX6_castingOf_20 : decode cX6_castingOf 20 = .ok (.areturn, 1) := by decide +kernel
theorem dX6_setCasting_0 : decode cX6_setCasting 0 = .ok (.iload_n 1, 1) := by decide +kernel
theorem dX6_setCasting_1 : decode cX6_setCasting 1 = .ok (.ifCond .lt 9, 3) := by decide +kernel
theorem dX6_setCasting_4 : decode cX6_setCasting 4 = .ok (.iload_n 1, 1) := by decide +kernel
theorem dX6_setCasting_5 : decode cX6_setCasting 5 = .ok (.bipush 8, 2) := by decide +kernel
theorem dX6_setCasting_7 : decode cX6_setCasting 7 = .ok (.if_icmp .lt 4, 3) := by decide +kernel
theorem dX6_setCasting_10 : decode cX6_setCasting 10 = .ok (.return_, 1) := by decide +kernel
theorem dX6_setCasting_11 : decode cX6_setCasting 11 = .ok (.aload_n 0, 1) := by decide +kernel
theorem dX6_setCasting_12 : decode cX6_setCasting 12 = .ok (.getfield 19, 3) := by decide +kernel
theorem dX6_setCasting_15 : decode cX6_setCasting 15 = .ok (.iload_n 1, 1) := by decide +kernel
theorem dX6_setCasting_16 : decode cX6_setCasting 16 = .ok (.aaload, 1) := by decide +kernel
theorem dX6_setCasting_17 : decode cX6_setCasting 17 = .ok (.astore 5, 2) := by decide +kernel
theorem dX6_setCasting_19 : decode cX6_setCasting 19 = .ok (.aload 5, 2) := by decide +kernel
theorem dX6_setCasting_21 : decode cX6_setCasting 21 = .ok (.ifnonnull 30, 3) := by decide +kernel
theorem dX6_setCasting_24 : decode cX6_setCasting 24 = .ok (.new 17, 3) := by decide +kernel
theorem dX6_setCasting_27 : decode cX6_setCasting 27 = .ok (.dup, 1) := by decide +kernel
theorem dX6_setCasting_28 : decode cX6_setCasting 28 = .ok (.invokespecial 34, 3) := by decide +kernel
theorem dX6_setCasting_31 : decode cX6_setCasting 31 = .ok (.astore 5, 2) := by decide +kernel
theorem dX6_setCasting_33 : decode cX6_setCasting 33 = .ok (.aload_n 0, 1) := by decide +kernel
theorem dX6_setCasting_34 : decode cX6_setCasting 34 = .ok (.getfield 19, 3) := by decide +kernel
theorem dX6_setCasting_37 : decode cX6_setCasting 37 = .ok (.iload_n 1, 1) := by decide +kernel
theorem dX6_setCasting_38 : decode cX6_setCasting 38 = .ok (.aload 5, 2) := by decide +kernel
theorem dX6_setCasting_40 : decode cX6_setCasting 40 = .ok (.aastore, 1) := by decide +kernel
theorem dX6_setCasting_41 : decode cX6_setCasting 41 = .ok (.aload_n 0, 1) := by decide +kernel
theorem dX6_setCasting_42 : decode cX6_setCasting 42 = .ok (.dup, 1) := by decide +kernel
theorem dX6_setCasting_43 : decode cX6_setCasting 43 = .ok (.getfield 35, 3) := by decide +kernel
theorem dX6_setCasting_46 : decode cX6_setCasting 46 = .ok (.iconst 1, 1) := by decide +kernel
theorem dX6_setCasting_47 : decode cX6_setCasting 47 = .ok (.iadd, 1) := by decide +kernel
theorem dX6_setCasting_48 : decode cX6_setCasting 48 = .ok (.putfield 35, 3) := by decide +kernel
theorem dX6_setCasting_51 : decode cX6_setCasting 51 = .ok (.aload 5, 2) := by decide +kernel
theorem dX6_setCasting_53 : decode cX6_setCasting 53 = .ok (.iload_n 2, 1) := by decide +kernel
theorem dX6_setCasting_54 : decode cX6_setCasting 54 = .ok (.putfield 38, 3) := by decide +kernel
theorem dX6_setCasting_57 : decode cX6_setCasting 57 = .ok (.aload 5, 2) := by decide +kernel
theorem dX6_setCasting_59 : decode cX6_setCasting 59 = .ok (.iload_n 3, 1) := by decide +kernel
theorem dX6_setCasting_60 : decode cX6_setCasting 60 = .ok (.putfield 41, 3) := by decide +kernel
theorem dX6_setCasting_63 : decode cX6_setCasting 63 = .ok (.aload 5, 2) := by decide +kernel
theorem dX6_setCasting_65 : decode cX6_setCasting 65 = .ok (.iload 4, 2) := by decide +kernel
theorem dX6_setCasting_67 : decode cX6_setCasting 67 = .ok (.putfield 44, 3) := by decide +kernel
theorem dX6_setCasting_70 : decode cX6_setCasting 70 = .ok (.return_, 1) := by decide +kernel
theorem dX6_removeFrames_0 : decode cX6_removeFrames 0 = .ok (.aload_n 0, 1) := by decide +kernel
theorem dX6_removeFrames_1 : decode cX6_removeFrames 1 = .ok (.iload_n 1, 1) := by decide +kernel
theorem dX6_removeFrames_2 : decode cX6_removeFrames 2 = .ok (.invokevirtual 30, 3) := by decide +kernel
theorem dX6_removeFrames_5 : decode cX6_removeFrames 5 = .ok (.ifCond .eq 18, 3) := by decide +kernel
theorem dX6_removeFrames_8 : decode cX6_removeFrames 8 = .ok (.iload_n 2, 1) := by decide +kernel
theorem dX6_removeFrames_9 : decode cX6_removeFrames 9 = .ok (.iconst 1, 1) := by decide +kernel
theorem dX6_removeFrames_10 : decode cX6_removeFrames 10 = .ok (.if_icmp .lt 13, 3) := by decide +kernel
theorem dX6_removeFrames_13 : decode cX6_removeFrames 13 = .ok (.iload_n 2, 1) := by decide +kernel
theorem dX6_removeFrames_14 : decode cX6_removeFrames 14 = .ok (.aload_n 0, 1) := by decide +kernel
theorem dX6_removeFrames_15 : decode cX6_removeFrames 15 = .ok (.getfield 26, 3) := by decide +kernel
theorem dX6_removeFrames_18 : decode cX6_removeFrames 18 = .ok (.iload_n 1, 1) := by decide +kernel
theorem dX6_removeFrames_19 : decode cX6_removeFrames 19 = .ok (.isub, 1) := by decide +kernel
theorem dX6_removeFrames_20 : decode cX6_removeFrames 20 = .ok (.if_icmp .le 4, 3) := by decide +kernel
theorem dX6_removeFrames_23 : decode cX6_removeFrames 23 = .ok (.return_, 1) := by decide +kernel
theorem dX6_removeFrames_24 : decode cX6_removeFrames 24 = .ok (.iload_n 1, 1) := by decide +kernel
theorem dX6_removeFrames_25 : decode cX6_removeFrames 25 = .ok (.istore_n 3, 1) := by decide +kernel
theorem dX6_removeFrames_26 : decode cX6_removeFrames 26 = .ok (.iload_n 3, 1) := by decide +kernel
theorem dX6_removeFrames_27 : decode cX6_removeFrames 27 = .ok (.iload_n 2, 1) := by decide +kernel
theorem dX6_removeFrames_28 : decode cX6_removeFrames 28 = .ok (.iadd, 1) := by decide +kernel
theorem dX6_removeFrames_29 : decode cX6_removeFrames 29 = .ok (.aload_n 0, 1) := by decide +kernel
theorem dX6_removeFrames_30 : decode cX6_removeFrames 30 = .ok (.getfield 26, 3) := by decide +kernel
theorem dX6_removeFrames_33 : decode cX6_removeFrames 33 = .ok (.if_icmp .ge 23, 3) := by decide +kernel
theorem dX6_removeFrames_36 : decode cX6_removeFrames 36 = .ok (.aload_n 0, 1) := by decide +kernel
theorem dX6_removeFrames_37 : decode cX6_removeFrames 37 = .ok (.getfield 11, 3) := by decide +kernel
theorem dX6_removeFrames_40 : decode cX6_removeFrames 40 = .ok (.iload_n 3, 1) := by decide +kernel
theorem dX6_removeFrames_41 : decode cX6_removeFrames 41 = .ok (.aload_n 0, 1) := by decide +kernel
theorem dX6_removeFrames_42 : decode cX6_removeFrames 42 = .ok (.getfield 11, 3) := by decide +kernel
theorem dX6_removeFrames_45 : decode cX6_removeFrames 45 = .ok (.iload_n 3, 1) := by decide +kernel
theorem dX6_removeFrames_46 : decode cX6_removeFrames 46 = .ok (.iload_n 2, 1) := by decide +kernel
theorem dX6_removeFrames_47 : decode cX6_removeFrames 47 = .ok (.iadd, 1) := by decide +kernel
theorem dX6_removeFrames_48 : decode cX6_removeFrames 48 = .ok (.aaload, 1) := by decide +kernel
theorem dX6_removeFrames_49 : decode cX6_removeFrames 49 = .ok (.aastore, 1) := by decide +kernel
theorem dX6_removeFrames_50 : decode cX6_removeFrames 50 = .ok (.iinc 3 1, 3) := by decide +kernel
theorem dX6_removeFrames_53 : decode cX6_removeFrames 53 = .ok (.goto (-27), 3) := by decide +kernel
theorem dX6_removeFrames_56 : decode cX6_removeFrames 56 = .ok (.aload_n 0, 1) := by decide +kernel
theorem dX6_removeFrames_57 : decode cX6_removeFrames 57 = .ok (.dup, 1) := by decide +kernel
theorem dX6_removeFrames_58 : decode cX6_removeFrames 58 = .ok (.getfield 26, 3) := by decide +kernel
theorem dX6_removeFrames_61 : decode cX6_removeFrames 61 = .ok (.iload_n 2, 1) := by decide +kernel
theorem dX6_removeFrames_62 : decode cX6_removeFrames 62 = .ok (.isub, 1) := by decide +kernel
theorem dX6_removeFrames_63 : decode cX6_removeFrames 63 = .ok (.putfield 26, 3) := by decide +kernel
theorem dX6_removeFrames_66 : decode cX6_removeFrames 66 = .ok (.return_, 1) := by decide +kernel
theorem dX6_follows_0 : decode cX6_follows 0 = .ok (.aload_n 0, 1) := by decide +kernel
theorem dX6_follows_1 : decode cX6_follows 1 = .ok (.iload_n 1, 1) := by decide +kernel
theorem dX6_follows_2 : decode cX6_follows 2 = .ok (.invokevirtual 47, 3) := by decide +kernel
theorem dX6_follows_5 : decode cX6_follows 5 = .ok (.astore_n 2, 1) := by decide +kernel
theorem dX6_follows_6 : decode cX6_follows 6 = .ok (.aload_n 2, 1) := by decide +kernel
theorem dX6_follows_7 : decode cX6_follows 7 = .ok (.ifnull 15, 3) := by decide +kernel
theorem dX6_follows_10 : decode cX6_follows 10 = .ok (.aload_n 2, 1) := by decide +kernel
theorem dX6_follows_11 : decode cX6_follows 11 = .ok (.getfield 38, 3) := by decide +kernel
theorem dX6_follows_14 : decode cX6_follows 14 = .ok (.iconst (-1), 1) := by decide +kernel
theorem dX6_follows_15 : decode cX6_follows 15 = .ok (.if_icmp .ne 7, 3) := by decide +kernel
theorem dX6_follows_18 : decode cX6_follows 18 = .ok (.iconst 1, 1) := by decide +kernel
theorem dX6_follows_19 : decode cX6_follows 19 = .ok (.goto 4, 3) := by decide +kernel
theorem dX6_follows_22 : decode cX6_follows 22 = .ok (.iconst 0, 1) := by decide +kernel
theorem dX6_follows_23 : decode cX6_follows 23 = .ok (.ireturn, 1) := by decide +kernel
theorem dX6_keepsUnlikeVersions_0 : decode cX6_keepsUnlikeVersions 0 = .ok (.iconst (-1), 1) := by decide +kernel
theorem dX6_keepsUnlikeVersions_1 : decode cX6_keepsUnlikeVersions 1 = .ok (.istore_n 2, 1) := by decide +kernel
theorem dX6_keepsUnlikeVersions_2 : decode cX6_keepsUnlikeVersions 2 = .ok (.iconst 0, 1) := by decide +kernel
theorem dX6_keepsUnlikeVersions_3 : decode cX6_keepsUnlikeVersions 3 = .ok (.istore_n 3, 1) := by decide +kernel
theorem dX6_keepsUnlikeVersions_4 : decode cX6_keepsUnlikeVersions 4 = .ok (.iload_n 3, 1) := by decide +kernel
theorem dX6_keepsUnlikeVersions_5 : decode cX6_keepsUnlikeVersions 5 = .ok (.aload_n 0, 1) := by decide +kernel
theorem dX6_keepsUnlikeVersions_6 : decode cX6_keepsUnlikeVersions 6 = .ok (.getfield 26, 3) := by decide +kernel
theorem dX6_keepsUnlikeVersions_9 : decode cX6_keepsUnlikeVersions 9 = .ok (.if_icmp .ge 58, 3) := by decide +kernel
theorem dX6_keepsUnlikeVersions_12 : decode cX6_keepsUnlikeVersions 12 = .ok (.aload_n 0, 1) := by decide +kernel
theorem dX6_keepsUnlikeVersions_13 : decode cX6_keepsUnlikeVersions 13 = .ok (.iload_n 3, 1) := by decide +kernel
theorem dX6_keepsUnlikeVersions_14 : decode cX6_keepsUnlikeVersions 14 = .ok (.invokevirtual 51, 3) := by decide +kernel
theorem dX6_keepsUnlikeVersions_17 : decode cX6_keepsUnlikeVersions 17 = .ok (.astore 4, 2) := by decide +kernel
theorem dX6_keepsUnlikeVersions_19 : decode cX6_keepsUnlikeVersions 19 = .ok (.aload 4, 2) := by decide +kernel
theorem dX6_keepsUnlikeVersions_21 : decode cX6_keepsUnlikeVersions 21 = .ok (.ifnonnull 7, 3) := by decide +kernel
theorem dX6_keepsUnlikeVersions_24 : decode cX6_keepsUnlikeVersions 24 = .ok (.iconst (-1), 1) := by decide +kernel
theorem dX6_keepsUnlikeVersions_25 : decode cX6_keepsUnlikeVersions 25 = .ok (.goto 9, 3) := by decide +kernel
theorem dX6_keepsUnlikeVersions_28 : decode cX6_keepsUnlikeVersions 28 = .ok (.aload 4, 2) := by decide +kernel
theorem dX6_keepsUnlikeVersions_30 : decode cX6_keepsUnlikeVersions 30 = .ok (.iload_n 1, 1) := by decide +kernel
theorem dX6_keepsUnlikeVersions_31 : decode cX6_keepsUnlikeVersions 31 = .ok (.invokevirtual 55, 3) := by decide +kernel
theorem dX6_keepsUnlikeVersions_34 : decode cX6_keepsUnlikeVersions 34 = .ok (.istore 5, 2) := by decide +kernel
theorem dX6_keepsUnlikeVersions_36 : decode cX6_keepsUnlikeVersions 36 = .ok (.iload_n 2, 1) := by decide +kernel
theorem dX6_keepsUnlikeVersions_37 : decode cX6_keepsUnlikeVersions 37 = .ok (.iconst (-1), 1) := by decide +kernel
theorem dX6_keepsUnlikeVersions_38 : decode cX6_keepsUnlikeVersions 38 = .ok (.if_icmp .ne 9, 3) := by decide +kernel
theorem dX6_keepsUnlikeVersions_41 : decode cX6_keepsUnlikeVersions 41 = .ok (.iload 5, 2) := by decide +kernel
theorem dX6_keepsUnlikeVersions_43 : decode cX6_keepsUnlikeVersions 43 = .ok (.istore_n 2, 1) := by decide +kernel
theorem dX6_keepsUnlikeVersions_44 : decode cX6_keepsUnlikeVersions 44 = .ok (.goto 17, 3) := by decide +kernel
theorem dX6_keepsUnlikeVersions_47 : decode cX6_keepsUnlikeVersions 47 = .ok (.iload 5, 2) := by decide +kernel
theorem dX6_keepsUnlikeVersions_49 : decode cX6_keepsUnlikeVersions 49 = .ok (.iconst (-1), 1) := by decide +kernel
theorem dX6_keepsUnlikeVersions_50 : decode cX6_keepsUnlikeVersions 50 = .ok (.if_icmp .eq 11, 3) := by decide +kernel
theorem dX6_keepsUnlikeVersions_53 : decode cX6_keepsUnlikeVersions 53 = .ok (.iload 5, 2) := by decide +kernel
theorem dX6_keepsUnlikeVersions_55 : decode cX6_keepsUnlikeVersions 55 = .ok (.iload_n 2, 1) := by decide +kernel
theorem dX6_keepsUnlikeVersions_56 : decode cX6_keepsUnlikeVersions 56 = .ok (.if_icmp .eq 5, 3) := by decide +kernel
theorem dX6_keepsUnlikeVersions_59 : decode cX6_keepsUnlikeVersions 59 = .ok (.iconst 1, 1) := by decide +kernel
theorem dX6_keepsUnlikeVersions_60 : decode cX6_keepsUnlikeVersions 60 = .ok (.ireturn, 1) := by decide +kernel
theorem dX6_keepsUnlikeVersions_61 : decode cX6_keepsUnlikeVersions 61 = .ok (.iinc 3 1, 3) := by decide +kernel
theorem dX6_keepsUnlikeVersions_64 : decode cX6_keepsUnlikeVersions 64 = .ok (.goto (-60), 3) := by decide +kernel
theorem dX6_keepsUnlikeVersions_67 : decode cX6_keepsUnlikeVersions 67 = .ok (.iconst 0, 1) := by decide +kernel
theorem dX6_keepsUnlikeVersions_68 : decode cX6_keepsUnlikeVersions 68 = .ok (.ireturn, 1) := by decide +kernel
theorem dX7_init_0 : decode cX7_init 0 = .ok (.aload_n 0, 1) := by decide +kernel
theorem dX7_init_1 : decode cX7_init 1 = .ok (.invokespecial 1, 3) := by decide +kernel
theorem dX7_init_4 : decode cX7_init 4 = .ok (.aload_n 0, 1) := by decide +kernel
theorem dX7_init_5 : decode cX7_init 5 = .ok (.bipush 8, 2) := by decide +kernel
theorem dX7_init_7 : decode cX7_init 7 = .ok (.anewarray 9, 3) := by decide +kernel
theorem dX7_init_10 : decode cX7_init 10 = .ok (.putfield 11, 3) := by decide +kernel
theorem dX7_init_13 : decode cX7_init 13 = .ok (.aload_n 0, 1) := by decide +kernel
theorem dX7_init_14 : decode cX7_init 14 = .ok (.bipush 8, 2) := by decide +kernel
theorem dX7_init_16 : decode cX7_init 16 = .ok (.anewarray 15, 3) := by decide +kernel
theorem dX7_init_19 : decode cX7_init 19 = .ok (.putfield 17, 3) := by decide +kernel
theorem dX7_init_22 : decode cX7_init 22 = .ok (.aload_n 0, 1) := by decide +kernel
theorem dX7_init_23 : decode cX7_init 23 = .ok (.bipush 40, 2) := by decide +kernel
theorem dX7_init_25 : decode cX7_init 25 = .ok (.anewarray 21, 3) := by decide +kernel
theorem dX7_init_28 : decode cX7_init 28 = .ok (.putfield 23, 3) := by decide +kernel
theorem dX7_init_31 : decode cX7_init 31 = .ok (.return_, 1) := by decide +kernel
theorem dX7_asset_0 : decode cX7_asset 0 = .ok (.aload_n 0, 1) := by decide +kernel
theorem dX7_asset_1 : decode cX7_asset 1 = .ok (.getfield 27, 3) := by decide +kernel
theorem dX7_asset_4 : decode cX7_asset 4 = .ok (.bipush 8, 2) := by decide +kernel
theorem dX7_asset_6 : decode cX7_asset 6 = .ok (.if_icmp .lt 13, 3) := by decide +kernel
theorem dX7_asset_9 : decode cX7_asset 9 = .ok (.new 31, 3) := by decide +kernel
theorem dX7_asset_12 : decode cX7_asset 12 = .ok (.dup, 1) := by decide +kernel
theorem dX7_asset_13 : decode cX7_asset 13 = .ok (.ldc 33, 2) := by decide +kernel
theorem dX7_asset_15 : decode cX7_asset 15 = .ok (.invokespecial 35, 3) := by decide +kernel
theorem dX7_asset_18 : decode cX7_asset 18 = .ok (.athrow, 1) := by decide +kernel
theorem dX7_asset_19 : decode cX7_asset 19 = .ok (.aload_n 0, 1) := by decide +kernel
theorem dX7_asset_20 : decode cX7_asset 20 = .ok (.getfield 11, 3) := by decide +kernel
theorem dX7_asset_23 : decode cX7_asset 23 = .ok (.aload_n 0, 1) := by decide +kernel
theorem dX7_asset_24 : decode cX7_asset 24 = .ok (.getfield 27, 3) := by decide +kernel
theorem dX7_asset_27 : decode cX7_asset 27 = .ok (.new 9, 3) := by decide +kernel
theorem dX7_asset_30 : decode cX7_asset 30 = .ok (.dup, 1) := by decide +kernel
theorem dX7_asset_31 : decode cX7_asset 31 = .ok (.invokespecial 38, 3) := by decide +kernel
theorem dX7_asset_34 : decode cX7_asset 34 = .ok (.aastore, 1) := by decide +kernel
theorem dX7_asset_35 : decode cX7_asset 35 = .ok (.aload_n 0, 1) := by decide +kernel
theorem dX7_asset_36 : decode cX7_asset 36 = .ok (.dup, 1) := by decide +kernel
theorem dX7_asset_37 : decode cX7_asset 37 = .ok (.getfield 27, 3) := by decide +kernel
theorem dX7_asset_40 : decode cX7_asset 40 = .ok (.dup_x1, 1) := by decide +kernel
theorem dX7_asset_41 : decode cX7_asset 41 = .ok (.iconst 1, 1) := by decide +kernel
theorem dX7_asset_42 : decode cX7_asset 42 = .ok (.iadd, 1) := by decide +kernel
theorem dX7_asset_43 : decode cX7_asset 43 = .ok (.putfield 27, 3) := by decide +kernel
theorem dX7_asset_46 : decode cX7_asset 46 = .ok (.ireturn, 1) := by decide +kernel
theorem dX7_bone_0 : decode cX7_bone 0 = .ok (.aload_n 0, 1) := by decide +kernel
theorem dX7_bone_1 : decode cX7_bone 1 = .ok (.iload_n 1, 1) := by decide +kernel
theorem dX7_bone_2 : decode cX7_bone 2 = .ok (.invokevirtual 39, 3) := by decide +kernel
theorem dX7_bone_5 : decode cX7_bone 5 = .ok (.astore_n 3, 1) := by decide +kernel
theorem dX7_bone_6 : decode cX7_bone 6 = .ok (.aload_n 3, 1) := by decide +kernel
theorem dX7_bone_7 : decode cX7_bone 7 = .ok (.ifnull 19, 3) := by decide +kernel
theorem dX7_bone_10 : decode cX7_bone 10 = .ok (.iload_n 2, 1) := by decide +kernel
theorem dX7_bone_11 : decode cX7_bone 11 = .ok (.iconst (-1), 1) := by decide +kernel
theorem dX7_bone_12 : decode cX7_bone 12 = .ok (.if_icmp .eq 24, 3) := by decide +kernel
theorem dX7_bone_15 : decode cX7_bone 15 = .ok (.aload_n 3, 1) := by decide +kernel
theorem dX7_bone_16 : decode cX7_bone 16 = .ok (.getfield 43, 3) := by decide +kernel
theorem dX7_bone_19 : decode cX7_bone 19 = .ok (.iload_n 2, 1) := by decide +kernel
theorem dX7_bone_20 : decode cX7_bone 20 = .ok (.invokevirtual 47, 3) := by decide +kernel
theorem dX7_bone_23 : decode cX7_bone 23 = .ok (.ifCond .ne 13, 3) := by decide +kernel
theorem dX7_bone_26 : decode cX7_bone 26 = .ok (.new 53, 3) := by decide +kernel
theorem dX7_bone_29 : decode cX7_bone 29 = .ok (.dup, 1) := by decide +kernel
theorem dX7_bone_30 : decode cX7_bone 30 = .ok (.ldc 55, 2) := by decide +kernel
theorem dX7_bone_32 : decode cX7_bone 32 = .ok (.invokespecial 57, 3) := by decide +kernel
theorem dX7_bone_35 : decode cX7_bone 35 = .ok (.athrow, 1) := by decide +kernel
theorem dX7_bone_36 : decode cX7_bone 36 = .ok (.aload_n 3, 1) := by decide +kernel
theorem dX7_bone_37 : decode cX7_bone 37 = .ok (.getfield 43, 3) := by decide +kernel
theorem dX7_bone_40 : decode cX7_bone 40 = .ok (.getfield 58, 3) := by decide +kernel
theorem dX7_bone_43 : decode cX7_bone 43 = .ok (.bipush 10, 2) := by decide +kernel
theorem dX7_bone_45 : decode cX7_bone 45 = .ok (.if_icmp .lt 13, 3) := by decide +kernel
theorem dX7_bone_48 : decode cX7_bone 48 = .ok (.new 31, 3) := by decide +kernel
theorem dX7_bone_51 : decode cX7_bone 51 = .ok (.dup, 1) := by decide +kernel
theorem dX7_bone_52 : decode cX7_bone 52 = .ok (.ldc 61, 2) := by decide +kernel
theorem dX7_bone_54 : decode cX7_bone 54 = .ok (.invokespecial 35, 3) := by decide +kernel
theorem dX7_bone_57 : decode cX7_bone 57 = .ok (.athrow, 1) := by decide +kernel
theorem dX7_bone_58 : decode cX7_bone 58 = .ok (.aload_n 3, 1) := by decide +kernel
theorem dX7_bone_59 : decode cX7_bone 59 = .ok (.getfield 43, 3) := by decide +kernel
theorem dX7_bone_62 : decode cX7_bone 62 = .ok (.iload_n 2, 1) := by decide +kernel
theorem dX7_bone_63 : decode cX7_bone 63 = .ok (.invokevirtual 63, 3) := by decide +kernel
theorem dX7_bone_66 : decode cX7_bone 66 = .ok (.ireturn, 1) := by decide +kernel
theorem dX7_key_0 : decode cX7_key 0 = .ok (.aload_n 0, 1) := by decide +kernel
theorem dX7_key_1 : decode cX7_key 1 = .ok (.iload_n 1, 1) := by decide +kernel
theorem dX7_key_2 : decode cX7_key 2 = .ok (.iload_n 2, 1) := by decide +kernel
theorem dX7_key_3 : decode cX7_key 3 = .ok (.invokevirtual 67, 3) := by decide +kernel
theorem dX7_key_6 : decode cX7_key 6 = .ok (.astore 6, 2) := by decide +kernel
theorem dX7_key_8 : decode cX7_key 8 = .ok (.aload 6, 2) := by decide +kernel
theorem dX7_key_10 : decode cX7_key 10 = .ok (.ifnonnull 13, 3) := by decide +kernel
theorem dX7_key_13 : decode cX7_key 13 = .ok (.new 53, 3) := by decide +kernel
theorem dX7_key_16 : decode cX7_key 16 = .ok (.dup, 1) := by decide +kernel
theorem dX7_key_17 : decode cX7_key 17 = .ok (.ldc 71, 2) := by decide +kernel
theorem dX7_key_19 : decode cX7_key 19 = .ok (.invokespecial 57, 3) := by decide +kernel
theorem dX7_key_22 : decode cX7_key 22 = .ok (.athrow, 1) := by decide +kernel
theorem dX7_key_23 : decode cX7_key 23 = .ok (.iload_n 3, 1) := by decide +kernel
theorem dX7_key_24 : decode cX7_key 24 = .ok (.invokestatic 73, 3) := by decide +kernel
theorem dX7_key_27 : decode cX7_key 27 = .ok (.ifCond .eq 30, 3) := by decide +kernel
theorem dX7_key_30 : decode cX7_key 30 = .ok (.iload 4, 2) := by decide +kernel
theorem dX7_key_32 : decode cX7_key 32 = .ok (.sipush (-999), 3) := by decide +kernel
theorem dX7_key_35 : decode cX7_key 35 = .ok (.if_icmp .lt 22, 3) := by decide +kernel
theorem dX7_key_38 : decode cX7_key 38 = .ok (.iload 4, 2) := by decide +kernel
theorem dX7_key_40 : decode cX7_key 40 = .ok (.sipush 999, 3) := by decide +kernel
theorem dX7_key_43 : decode cX7_key 43 = .ok (.if_icmp .gt 14, 3) := by decide +kernel
theorem dX7_key_46 : decode cX7_key 46 = .ok (.iload 5, 2) := by decide +kernel
theorem dX7_key_48 : decode cX7_key 48 = .ok (.ifCond .lt 9, 3) := by decide +kernel
theorem dX7_key_51 : decode cX7_key 51 = .ok (.iload 5, 2) := by decide +kernel
theorem dX7_key_53 : decode cX7_key 53 = .ok (.iconst 2, 1) := by decide +kernel
theorem dX7_key_54 : decode cX7_key 54 = .ok (.if_icmp .le 13, 3) := by decide +kernel
theorem dX7_key_57 : decode cX7_key 57 = .ok (.new 76, 3) := by decide +kernel
theorem dX7_key_60 : decode cX7_key 60 = .ok (.dup, 1) := by decide +kernel
theorem dX7_key_61 : decode cX7_key 61 = .ok (.ldc 78, 2) := by decide +kernel
theorem dX7_key_63 : decode cX7_key 63 = .ok (.invokespecial 80, 3) := by decide +kernel
theorem dX7_key_66 : decode cX7_key 66 = .ok (.athrow, 1) := by decide +kernel
theorem dX7_key_67 : decode cX7_key 67 = .ok (.aload 6, 2) := by decide +kernel
theorem dX7_key_69 : decode cX7_key 69 = .ok (.iload_n 3, 1) := by decide +kernel
theorem dX7_key_70 : decode cX7_key 70 = .ok (.invokevirtual 81, 3) := by decide +kernel
theorem dX7_key_73 : decode cX7_key 73 = .ok (.ifCond .ne 13, 3) := by decide +kernel
theorem dX7_key_76 : decode cX7_key 76 = .ok (.new 31, 3) := by decide +kernel
theorem dX7_key_79 : decode cX7_key 79 = .ok (.dup, 1) := by decide +kernel
theorem dX7_key_80 : decode cX7_key 80 = .ok (.ldc 86, 2) := by decide +kernel
theorem dX7_key_82 : decode cX7_key 82 = .ok (.invokespecial 35, 3) := by decide +kernel
theorem dX7_key_85 : decode cX7_key 85 = .ok (.athrow, 1) := by decide +kernel
theorem dX7_key_86 : decode cX7_key 86 = .ok (.aload 6, 2) := by decide +kernel
theorem dX7_key_88 : decode cX7_key 88 = .ok (.iload_n 3, 1) := by decide +kernel
theorem dX7_key_89 : decode cX7_key 89 = .ok (.iload 4, 2) := by decide +kernel
theorem dX7_key_91 : decode cX7_key 91 = .ok (.iload 5, 2) := by decide +kernel
theorem dX7_key_93 : decode cX7_key 93 = .ok (.invokevirtual 88, 3) := by decide +kernel
theorem dX7_key_96 : decode cX7_key 96 = .ok (.aload 6, 2) := by decide +kernel
theorem dX7_key_98 : decode cX7_key 98 = .ok (.getfield 92, 3) := by decide +kernel
theorem dX7_key_101 : decode cX7_key 101 = .ok (.ireturn, 1) := by decide +kernel
theorem dX7_unkey_0 : decode cX7_unkey 0 = .ok (.aload_n 0, 1) := by decide +kernel
theorem dX7_unkey_1 : decode cX7_unkey 1 = .ok (.iload_n 1, 1) := by decide +kernel
theorem dX7_unkey_2 : decode cX7_unkey 2 = .ok (.iload_n 2, 1) := by decide +kernel
theorem dX7_unkey_3 : decode cX7_unkey 3 = .ok (.invokevirtual 67, 3) := by decide +kernel
theorem dX7_unkey_6 : decode cX7_unkey 6 = .ok (.astore 4, 2) := by decide +kernel
theorem dX7_unkey_8 : decode cX7_unkey 8 = .ok (.aload 4, 2) := by decide +kernel
theorem dX7_unkey_10 : decode cX7_unkey 10 = .ok (.ifnonnull 13, 3) := by decide +kernel
theorem dX7_unkey_13 : decode cX7_unkey 13 = .ok (.new 53, 3) := by decide +kernel
theorem dX7_unkey_16 : decode cX7_unkey 16 = .ok (.dup, 1) := by decide +kernel
theorem dX7_unkey_17 : decode cX7_unkey 17 = .ok (.ldc 71, 2) := by decide +kernel
theorem dX7_unkey_19 : decode cX7_unkey 19 = .ok (.invokespecial 57, 3) := by decide +kernel
theorem dX7_unkey_22 : decode cX7_unkey 22 = .ok (.athrow, 1) := by decide +kernel
theorem dX7_unkey_23 : decode cX7_unkey 23 = .ok (.iload_n 3, 1) := by decide +kernel
theorem dX7_unkey_24 : decode cX7_unkey 24 = .ok (.invokestatic 73, 3) := by decide +kernel
theorem dX7_unkey_27 : decode cX7_unkey 27 = .ok (.ifCond .ne 13, 3) := by decide +kernel
theorem dX7_unkey_30 : decode cX7_unkey 30 = .ok (.new 76, 3) := by decide +kernel
theorem dX7_unkey_33 : decode cX7_unkey 33 = .ok (.dup, 1) := by decide +kernel
theorem dX7_unkey_34 : decode cX7_unkey 34 = .ok (.ldc 93, 2) := by decide +kernel
theorem dX7_unkey_36 : decode cX7_unkey 36 = .ok (.invokespecial 80, 3) := by decide +kernel
theorem dX7_unkey_39 : decode cX7_unkey 39 = .ok (.athrow, 1) := by decide +kernel
theorem dX7_unkey_40 : decode cX7_unkey 40 = .ok (.aload 4, 2) := by decide +kernel
theorem dX7_unkey_42 : decode cX7_unkey 42 = .ok (.iload_n 3, 1) := by decide +kernel
theorem dX7_unkey_43 : decode cX7_unkey 43 = .ok (.invokevirtual 95, 3) := by decide +kernel
theorem dX7_unkey_46 : decode cX7_unkey 46 = .ok (.ireturn, 1) := by decide +kernel
theorem dX7_publish_0 : decode cX7_publish 0 = .ok (.aload_n 0, 1) := by decide +kernel
theorem dX7_publish_1 : decode cX7_publish 1 = .ok (.iload_n 1, 1) := by decide +kernel
theorem dX7_publish_2 : decode cX7_publish 2 = .ok (.invokevirtual 39, 3) := by decide +kernel
theorem dX7_publish_5 : decode cX7_publish 5 = .ok (.astore_n 2, 1) := by decide +kernel
theorem dX7_publish_6 : decode cX7_publish 6 = .ok (.aload_n 2, 1) := by decide +kernel
theorem dX7_publish_7 : decode cX7_publish 7 = .ok (.ifnonnull 13, 3) := by decide +kernel
theorem dX7_publish_10 : decode cX7_publish 10 = .ok (.new 53, 3) := by decide +kernel
theorem dX7_publish_13 : decode cX7_publish 13 = .ok (.dup, 1) := by decide +kernel
theorem dX7_publish_14 : decode cX7_publish 14 = .ok (.ldc 98, 2) := by decide +kernel
theorem dX7_publish_16 : decode cX7_publish 16 = .ok (.invokespecial 57, 3) := by decide +kernel
theorem dX7_publish_19 : decode cX7_publish 19 = .ok (.athrow, 1) := by decide +kernel
theorem dX7_publish_20 : decode cX7_publish 20 = .ok (.aload_n 2, 1) := by decide +kernel
theorem dX7_publish_21 : decode cX7_publish 21 = .ok (.getfield 100, 3) := by decide +kernel
theorem dX7_publish_24 : decode cX7_publish 24 = .ok (.bipush 12, 2) := by decide +kernel
theorem dX7_publish_26 : decode cX7_publish 26 = .ok (.if_icmp .ge 13, 3) := by decide +kernel
theorem dX7_publish_29 : decode cX7_publish 29 = .ok (.aload_n 2, 1) := by decide +kernel
theorem dX7_publish_30 : decode cX7_publish 30 = .ok (.getfield 43, 3) := by decide +kernel
theorem dX7_publish_33 : decode cX7_publish 33 = .ok (.getfield 58, 3) := by decide +kernel
theorem dX7_publish_36 : decode cX7_publish 36 = .ok (.ifCond .ne 13, 3) := by decide +kernel
theorem dX7_publish_39 : decode cX7_publish 39 = .ok (.new 31, 3) := by decide +kernel
theorem dX7_publish_42 : decode cX7_publish 42 = .ok (.dup, 1) := by decide +kernel
theorem dX7_publish_43 : decode cX7_publish 43 = .ok (.ldc 103, 2) := by decide +kernel
theorem dX7_publish_45 : decode cX7_publish 45 = .ok (.invokespecial 35, 3) := by decide +kernel
theorem dX7_publish_48 : decode cX7_publish 48 = .ok (.athrow, 1) := by decide +kernel
theorem dX7_publish_49 : decode cX7_publish 49 = .ok (.aload_n 2, 1) := by decide +kernel
theorem dX7_publish_50 : decode cX7_publish 50 = .ok (.invokevirtual 105, 3) := by decide +kernel
theorem dX7_publish_53 : decode cX7_publish 53 = .ok (.ireturn, 1) := by decide +kernel
theorem dX7_pose_0 : decode cX7_pose 0 = .ok (.aload_n 0, 1) := by decide +kernel
theorem dX7_pose_1 : decode cX7_pose 1 = .ok (.iload_n 1, 1) := by decide +kernel
theorem dX7_pose_2 : decode cX7_pose 2 = .ok (.iload_n 2, 1) := by decide +kernel
theorem dX7_pose_3 : decode cX7_pose 3 = .ok (.invokevirtual 109, 3) := by decide +kernel
theorem dX7_pose_6 : decode cX7_pose 6 = .ok (.astore 5, 2) := by decide +kernel
theorem dX7_pose_8 : decode cX7_pose 8 = .ok (.aload 5, 2) := by decide +kernel
theorem dX7_pose_10 : decode cX7_pose 10 = .ok (.ifnull 12, 3) := by decide +kernel
theorem dX7_pose_13 : decode cX7_pose 13 = .ok (.aload 5, 2) := by decide +kernel
theorem dX7_pose_15 : decode cX7_pose 15 = .ok (.iload_n 3, 1) := by decide +kernel
theorem dX7_pose_16 : decode cX7_pose 16 = .ok (.invokevirtual 47, 3) := by decide +kernel
theorem dX7_pose_19 : decode cX7_pose 19 = .ok (.ifCond .ne 13, 3) := by decide +kernel
theorem dX7_pose_22 : decode cX7_pose 22 = .ok (.new 53, 3) := by decide +kernel
theorem dX7_pose_25 : decode cX7_pose 25 = .ok (.dup, 1) := by decide +kernel
theorem dX7_pose_26 : decode cX7_pose 26 = .ok (.ldc 113, 2) := by decide +kernel
theorem dX7_pose_28 : decode cX7_pose 28 = .ok (.invokespecial 57, 3) := by decide +kernel
theorem dX7_pose_31 : decode cX7_pose 31 = .ok (.athrow, 1) := by decide +kernel
theorem dX7_pose_32 : decode cX7_pose 32 = .ok (.iload 4, 2) := by decide +kernel
theorem dX7_pose_34 : decode cX7_pose 34 = .ok (.invokestatic 73, 3) := by decide +kernel
theorem dX7_pose_37 : decode cX7_pose 37 = .ok (.ifCond .ne 13, 3) := by decide +kernel
theorem dX7_pose_40 : decode cX7_pose 40 = .ok (.new 76, 3) := by decide +kernel
theorem dX7_pose_43 : decode cX7_pose 43 = .ok (.dup, 1) := by decide +kernel
theorem dX7_pose_44 : decode cX7_pose 44 = .ok (.ldc 93, 2) := by decide +kernel
theorem dX7_pose_46 : decode cX7_pose 46 = .ok (.invokespecial 80, 3) := by decide +kernel
theorem dX7_pose_49 : decode cX7_pose 49 = .ok (.athrow, 1) := by decide +kernel
theorem dX7_pose_50 : decode cX7_pose 50 = .ok (.aload 5, 2) := by decide +kernel
theorem dX7_pose_52 : decode cX7_pose 52 = .ok (.iload_n 3, 1) := by decide +kernel
theorem dX7_pose_53 : decode cX7_pose 53 = .ok (.iload 4, 2) := by decide +kernel
theorem dX7_pose_55 : decode cX7_pose 55 = .ok (.invokevirtual 115, 3) := by decide +kernel
theorem dX7_pose_58 : decode cX7_pose 58 = .ok (.ireturn, 1) := by decide +kernel
theorem dX7_poseAnew_0 : decode cX7_poseAnew 0 = .ok (.aload_n 0, 1) := by decide +kernel
theorem dX7_poseAnew_1 : decode cX7_poseAnew 1 = .ok (.iload_n 1, 1) := by decide +kernel
theorem dX7_poseAnew_2 : decode cX7_poseAnew 2 = .ok (.iload_n 2, 1) := by decide +kernel
theorem dX7_poseAnew_3 : decode cX7_poseAnew 3 = .ok (.invokevirtual 109, 3) := by decide +kernel
theorem dX7_poseAnew_6 : decode cX7_poseAnew 6 = .ok (.astore 5, 2) := by decide +kernel
theorem dX7_poseAnew_8 : decode cX7_poseAnew 8 = .ok (.aload 5, 2) := by decide +kernel
theorem dX7_poseAnew_10 : decode cX7_poseAnew 10 = .ok (.ifnull 12, 3) := by decide +kernel
theorem dX7_poseAnew_13 : decode cX7_poseAnew 13 = .ok (.aload 5, 2) := by decide +kernel
theorem dX7_poseAnew_15 : decode cX7_poseAnew 15 = .ok (.iload_n 3, 1) := by decide +kernel
theorem dX7_poseAnew_16 : decode cX7_poseAnew 16 = .ok (.invokevirtual 47, 3) := by decide +kernel
theorem dX7_poseAnew_19 : decode cX7_poseAnew 19 = .ok (.ifCond .ne 13, 3) := by decide +kernel
theorem dX7_poseAnew_22 : decode cX7_poseAnew 22 = .ok (.new 53, 3) := by decide +kernel
theorem dX7_poseAnew_25 : decode cX7_poseAnew 25 = .ok (.dup, 1) := by decide +kernel
theorem dX7_poseAnew_26 : decode cX7_poseAnew 26 = .ok (.ldc 113, 2) := by decide +kernel
theorem dX7_poseAnew_28 : decode cX7_poseAnew 28 = .ok (.invokespecial 57, 3) := by decide +kernel
theorem dX7_poseAnew_31 : decode cX7_poseAnew 31 = .ok (.athrow, 1) := by decide +kernel
theorem dX7_poseAnew_32 : decode cX7_poseAnew 32 = .ok (.iload 4, 2) := by decide +kernel
theorem dX7_poseAnew_34 : decode cX7_poseAnew 34 = .ok (.invokestatic 73, 3) := by decide +kernel
theorem dX7_poseAnew_37 : decode cX7_poseAnew 37 = .ok (.ifCond .ne 13, 3) := by decide +kernel
theorem dX7_poseAnew_40 : decode cX7_poseAnew 40 = .ok (.new 76, 3) := by decide +kernel
theorem dX7_poseAnew_43 : decode cX7_poseAnew 43 = .ok (.dup, 1) := by decide +kernel
theorem dX7_poseAnew_44 : decode cX7_poseAnew 44 = .ok (.ldc 93, 2) := by decide +kernel
theorem dX7_poseAnew_46 : decode cX7_poseAnew 46 = .ok (.invokespecial 80, 3) := by decide +kernel
theorem dX7_poseAnew_49 : decode cX7_poseAnew 49 = .ok (.athrow, 1) := by decide +kernel
theorem dX7_poseAnew_50 : decode cX7_poseAnew 50 = .ok (.aload 5, 2) := by decide +kernel
theorem dX7_poseAnew_52 : decode cX7_poseAnew 52 = .ok (.iload_n 3, 1) := by decide +kernel
theorem dX7_poseAnew_53 : decode cX7_poseAnew 53 = .ok (.iload 4, 2) := by decide +kernel
theorem dX7_poseAnew_55 : decode cX7_poseAnew 55 = .ok (.invokevirtual 119, 3) := by decide +kernel
theorem dX7_poseAnew_58 : decode cX7_poseAnew 58 = .ok (.ireturn, 1) := by decide +kernel
theorem dX7_ofAsset_0 : decode cX7_ofAsset 0 = .ok (.aload_n 0, 1) := by decide +kernel
theorem dX7_ofAsset_1 : decode cX7_ofAsset 1 = .ok (.iload_n 1, 1) := by decide +kernel
theorem dX7_ofAsset_2 : decode cX7_ofAsset 2 = .ok (.invokevirtual 39, 3) := by decide +kernel
theorem dX7_ofAsset_5 : decode cX7_ofAsset 5 = .ok (.astore_n 3, 1) := by decide +kernel
theorem dX7_ofAsset_6 : decode cX7_ofAsset 6 = .ok (.aload_n 3, 1) := by decide +kernel
theorem dX7_ofAsset_7 : decode cX7_ofAsset 7 = .ok (.ifnonnull 13, 3) := by decide +kernel
theorem dX7_ofAsset_10 : decode cX7_ofAsset 10 = .ok (.new 53, 3) := by decide +kernel
theorem dX7_ofAsset_13 : decode cX7_ofAsset 13 = .ok (.dup, 1) := by decide +kernel
theorem dX7_ofAsset_14 : decode cX7_ofAsset 14 = .ok (.ldc 98, 2) := by decide +kernel
theorem dX7_ofAsset_16 : decode cX7_ofAsset 16 = .ok (.invokespecial 57, 3) := by decide +kernel
theorem dX7_ofAsset_19 : decode cX7_ofAsset 19 = .ok (.athrow, 1) := by decide +kernel
theorem dX7_ofAsset_20 : decode cX7_ofAsset 20 = .ok (.iload_n 2, 1) := by decide +kernel
theorem dX7_ofAsset_21 : decode cX7_ofAsset 21 = .ok (.tableswitch 46 0 2 #[27, 35, 40], 27) := by decide +kernel
theorem dX7_ofAsset_48 : decode cX7_ofAsset 48 = .ok (.aload_n 3, 1) := by decide +kernel
theorem dX7_ofAsset_49 : decode cX7_ofAsset 49 = .ok (.getfield 43, 3) := by decide +kernel
theorem dX7_ofAsset_52 : decode cX7_ofAsset 52 = .ok (.getfield 58, 3) := by decide +kernel
theorem dX7_ofAsset_55 : decode cX7_ofAsset 55 = .ok (.ireturn, 1) := by decide +kernel
theorem dX7_ofAsset_56 : decode cX7_ofAsset 56 = .ok (.aload_n 3, 1) := by decide +kernel
theorem dX7_ofAsset_57 : decode cX7_ofAsset 57 = .ok (.getfield 100, 3) := by decide +kernel
theorem dX7_ofAsset_60 : decode cX7_ofAsset 60 = .ok (.ireturn, 1) := by decide +kernel
theorem dX7_ofAsset_61 : decode cX7_ofAsset 61 = .ok (.aload_n 0, 1) := by decide +kernel
theorem dX7_ofAsset_62 : decode cX7_ofAsset 62 = .ok (.iload_n 1, 1) := by decide +kernel
theorem dX7_ofAsset_63 : decode cX7_ofAsset 63 = .ok (.invokevirtual 122, 3) := by decide +kernel
theorem dX7_ofAsset_66 : decode cX7_ofAsset 66 = .ok (.ireturn, 1) := by decide +kernel
theorem dX7_ofAsset_67 : decode cX7_ofAsset 67 = .ok (.new 53, 3) := by decide +kernel
theorem dX7_ofAsset_70 : decode cX7_ofAsset 70 = .ok (.dup, 1) := by decide +kernel
theorem dX7_ofAsset_71 : decode cX7_ofAsset 71 = .ok (.ldc 125, 2) := by decide +kernel
theorem dX7_ofAsset_73 : decode cX7_ofAsset 73 = .ok (.invokespecial 57, 3) := by decide +kernel
theorem dX7_ofAsset_76 : decode cX7_ofAsset 76 = .ok (.athrow, 1) := by decide +kernel
theorem dX7_scene_0 : decode cX7_scene 0 = .ok (.iload_n 1, 1) := by decide +kernel
theorem dX7_scene_1 : decode cX7_scene 1 = .ok (.iconst 1, 1) := by decide +kernel
theorem dX7_scene_2 : decode cX7_scene 2 = .ok (.if_icmp .lt 9, 3) := by decide +kernel
theorem dX7_scene_5 : decode cX7_scene 5 = .ok (.iload_n 1, 1) := by decide +kernel
theorem dX7_scene_6 : decode cX7_scene 6 = .ok (.bipush 40, 2) := by decide +kernel
theorem dX7_scene_8 : decode cX7_scene 8 = .ok (.if_icmp .le 13, 3) := by decide +kernel
theorem dX7_scene_11 : decode cX7_scene 11 = .ok (.new 76, 3) := by decide +kernel
theorem dX7_scene_14 : decode cX7_scene 14 = .ok (.dup, 1) := by decide +kernel
theorem dX7_scene_15 : decode cX7_scene 15 = .ok (.ldc 127, 2) := by decide +kernel
theorem dX7_scene_17 : decode cX7_scene 17 = .ok (.invokespecial 80, 3) := by decide +kernel
theorem dX7_scene_20 : decode cX7_scene 20 = .ok (.athrow, 1) := by decide +kernel
theorem dX7_scene_21 : decode cX7_scene 21 = .ok (.aload_n 0, 1) := by decide +kernel
theorem dX7_scene_22 : decode cX7_scene 22 = .ok (.getfield 129, 3) := by decide +kernel
theorem dX7_scene_25 : decode cX7_scene 25 = .ok (.bipush 8, 2) := by decide +kernel
theorem dX7_scene_27 : decode cX7_scene 27 = .ok (.if_icmp .lt 13, 3) := by decide +kernel
theorem dX7_scene_30 : decode cX7_scene 30 = .ok (.new 31, 3) := by decide +kernel
theorem dX7_scene_33 : decode cX7_scene 33 = .ok (.dup, 1) := by decide +kernel
theorem dX7_scene_34 : decode cX7_scene 34 = .ok (.ldc 132, 2) := by decide +kernel
theorem dX7_scene_36 : decode cX7_scene 36 = .ok (.invokespecial 35, 3) := by decide +kernel
theorem dX7_scene_39 : decode cX7_scene 39 = .ok (.athrow, 1) := by decide +kernel
theorem dX7_scene_40 : decode cX7_scene 40 = .ok (.aload_n 0, 1) := by decide +kernel
theorem dX7_scene_41 : decode cX7_scene 41 = .ok (.getfield 17, 3) := by decide +kernel
theorem dX7_scene_44 : decode cX7_scene 44 = .ok (.aload_n 0, 1) := by decide +kernel
theorem dX7_scene_45 : decode cX7_scene 45 = .ok (.getfield 129, 3) := by decide +kernel
theorem dX7_scene_48 : decode cX7_scene 48 = .ok (.new 15, 3) := by decide +kernel
theorem dX7_scene_51 : decode cX7_scene 51 = .ok (.dup, 1) := by decide +kernel
theorem dX7_scene_52 : decode cX7_scene 52 = .ok (.iload_n 1, 1) := by decide +kernel
theorem dX7_scene_53 : decode cX7_scene 53 = .ok (.invokespecial 134, 3) := by decide +kernel
theorem dX7_scene_56 : decode cX7_scene 56 = .ok (.aastore, 1) := by decide +kernel
theorem dX7_scene_57 : decode cX7_scene 57 = .ok (.aload_n 0, 1) := by decide +kernel
theorem dX7_scene_58 : decode cX7_scene 58 = .ok (.dup, 1) := by decide +kernel
theorem dX7_scene_59 : decode cX7_scene 59 = .ok (.getfield 129, 3) := by decide +kernel
theorem dX7_scene_62 : decode cX7_scene 62 = .ok (.dup_x1, 1) := by decide +kernel
theorem dX7_scene_63 : decode cX7_scene 63 = .ok (.iconst 1, 1) := by decide +kernel
theorem dX7_scene_64 : decode cX7_scene 64 = .ok (.iadd, 1) := by decide +kernel
theorem dX7_scene_65 : decode cX7_scene 65 = .ok (.putfield 129, 3) := by decide +kernel
theorem dX7_scene_68 : decode cX7_scene 68 = .ok (.ireturn, 1) := by decide +kernel
theorem dX7_cast_0 : decode cX7_cast 0 = .ok (.aload_n 0, 1) := by decide +kernel
theorem dX7_cast_1 : decode cX7_cast 1 = .ok (.iload_n 1, 1) := by decide +kernel
theorem dX7_cast_2 : decode cX7_cast 2 = .ok (.invokevirtual 137, 3) := by decide +kernel
theorem dX7_cast_5 : decode cX7_cast 5 = .ok (.astore 6, 2) := by decide +kernel
theorem dX7_cast_7 : decode cX7_cast 7 = .ok (.aload 6, 2) := by decide +kernel
theorem dX7_cast_9 : decode cX7_cast 9 = .ok (.ifnull 12, 3) := by decide +kernel
theorem dX7_cast_12 : decode cX7_cast 12 = .ok (.aload_n 0, 1) := by decide +kernel
theorem dX7_cast_13 : decode cX7_cast 13 = .ok (.iload_n 2, 1) := by decide +kernel
theorem dX7_cast_14 : decode cX7_cast 14 = .ok (.iload_n 3, 1) := by decide +kernel
theorem dX7_cast_15 : decode cX7_cast 15 = .ok (.invokevirtual 109, 3) := by decide +kernel
theorem dX7_cast_18 : decode cX7_cast 18 = .ok (.ifnonnull 13, 3) := by decide +kernel
theorem dX7_cast_21 : decode cX7_cast 21 = .ok (.new 53, 3) := by decide +kernel
theorem dX7_cast_24 : decode cX7_cast 24 = .ok (.dup, 1) := by decide +kernel
theorem dX7_cast_25 : decode cX7_cast 25 = .ok (.ldc 141, 2) := by decide +kernel
theorem dX7_cast_27 : decode cX7_cast 27 = .ok (.invokespecial 57, 3) := by decide +kernel
theorem dX7_cast_30 : decode cX7_cast 30 = .ok (.athrow, 1) := by decide +kernel
theorem dX7_cast_31 : decode cX7_cast 31 = .ok (.iload 4, 2) := by decide +kernel
theorem dX7_cast_33 : decode cX7_cast 33 = .ok (.invokestatic 143, 3) := by decide +kernel
theorem dX7_cast_36 : decode cX7_cast 36 = .ok (.ifCond .eq 18, 3) := by decide +kernel
theorem dX7_cast_39 : decode cX7_cast 39 = .ok (.iload 5, 2) := by decide +kernel
theorem dX7_cast_41 : decode cX7_cast 41 = .ok (.iload 4, 2) := by decide +kernel
theorem dX7_cast_43 : decode cX7_cast 43 = .ok (.if_icmp .lt 11, 3) := by decide +kernel
theorem dX7_cast_46 : decode cX7_cast 46 = .ok (.iload 5, 2) := by decide +kernel
theorem dX7_cast_48 : decode cX7_cast 48 = .ok (.invokestatic 143, 3) := by decide +kernel
theorem dX7_cast_51 : decode cX7_cast 51 = .ok (.ifCond .ne 13, 3) := by decide +kernel
theorem dX7_cast_54 : decode cX7_cast 54 = .ok (.new 76, 3) := by decide +kernel
theorem dX7_cast_57 : decode cX7_cast 57 = .ok (.dup, 1) := by decide +kernel
theorem dX7_cast_58 : decode cX7_cast 58 = .ok (.ldc 146, 2) := by decide +kernel
theorem dX7_cast_60 : decode cX7_cast 60 = .ok (.invokespecial 80, 3) := by decide +kernel
theorem dX7_cast_63 : decode cX7_cast 63 = .ok (.athrow, 1) := by decide +kernel
theorem dX7_cast_64 : decode cX7_cast 64 = .ok (.aload 6, 2) := by decide +kernel
theorem dX7_cast_66 : decode cX7_cast 66 = .ok (.iload_n 2, 1) := by decide +kernel
theorem dX7_cast_67 : decode cX7_cast 67 = .ok (.iload_n 3, 1) := by decide +kernel
theorem dX7_cast_68 : decode cX7_cast 68 = .ok (.iload 4, 2) := by decide +kernel
theorem dX7_cast_70 : decode cX7_cast 70 = .ok (.iload 5, 2) := by decide +kernel
theorem dX7_cast_72 : decode cX7_cast 72 = .ok (.invokevirtual 148, 3) := by decide +kernel
theorem dX7_cast_75 : decode cX7_cast 75 = .ok (.aload 6, 2) := by decide +kernel
theorem dX7_cast_77 : decode cX7_cast 77 = .ok (.getfield 152, 3) := by decide +kernel
theorem dX7_cast_80 : decode cX7_cast 80 = .ok (.ireturn, 1) := by decide +kernel
theorem dX7_cut_0 : decode cX7_cut 0 = .ok (.aload_n 0, 1) := by decide +kernel
theorem dX7_cut_1 : decode cX7_cut 1 = .ok (.iload_n 1, 1) := by decide +kernel
theorem dX7_cut_2 : decode cX7_cut 2 = .ok (.invokevirtual 137, 3) := by decide +kernel
theorem dX7_cut_5 : decode cX7_cut 5 = .ok (.astore 4, 2) := by decide +kernel
theorem dX7_cut_7 : decode cX7_cut 7 = .ok (.aload 4, 2) := by decide +kernel
theorem dX7_cut_9 : decode cX7_cut 9 = .ok (.ifnull 12, 3) := by decide +kernel
theorem dX7_cut_12 : decode cX7_cut 12 = .ok (.aload 4, 2) := by decide +kernel
theorem dX7_cut_14 : decode cX7_cut 14 = .ok (.iload_n 2, 1) := by decide +kernel
theorem dX7_cut_15 : decode cX7_cut 15 = .ok (.invokevirtual 155, 3) := by decide +kernel
theorem dX7_cut_18 : decode cX7_cut 18 = .ok (.ifCond .ne 13, 3) := by decide +kernel
theorem dX7_cut_21 : decode cX7_cut 21 = .ok (.new 53, 3) := by decide +kernel
theorem dX7_cut_24 : decode cX7_cut 24 = .ok (.dup, 1) := by decide +kernel
theorem dX7_cut_25 : decode cX7_cut 25 = .ok (.ldc 158, 2) := by decide +kernel
theorem dX7_cut_27 : decode cX7_cut 27 = .ok (.invokespecial 57, 3) := by decide +kernel
theorem dX7_cut_30 : decode cX7_cut 30 = .ok (.athrow, 1) := by decide +kernel
theorem dX7_cut_31 : decode cX7_cut 31 = .ok (.iload_n 3, 1) := by decide +kernel
theorem dX7_cut_32 : decode cX7_cut 32 = .ok (.iconst 1, 1) := by decide +kernel
theorem dX7_cut_33 : decode cX7_cut 33 = .ok (.if_icmp .ge 13, 3) := by decide +kernel
theorem dX7_cut_36 : decode cX7_cut 36 = .ok (.new 76, 3) := by decide +kernel
theorem dX7_cut_39 : decode cX7_cut 39 = .ok (.dup, 1) := by decide +kernel
theorem dX7_cut_40 : decode cX7_cut 40 = .ok (.ldc 160, 2) := by decide +kernel
theorem dX7_cut_42 : decode cX7_cut 42 = .ok (.invokespecial 80, 3) := by decide +kernel
theorem dX7_cut_45 : decode cX7_cut 45 = .ok (.athrow, 1) := by decide +kernel
theorem dX7_cut_46 : decode cX7_cut 46 = .ok (.iload_n 3, 1) := by decide +kernel
theorem dX7_cut_47 : decode cX7_cut 47 = .ok (.aload 4, 2) := by decide +kernel
theorem dX7_cut_49 : decode cX7_cut 49 = .ok (.getfield 162, 3) := by decide +kernel
theorem dX7_cut_52 : decode cX7_cut 52 = .ok (.iload_n 2, 1) := by decide +kernel
theorem dX7_cut_53 : decode cX7_cut 53 = .ok (.isub, 1) := by decide +kernel
theorem dX7_cut_54 : decode cX7_cut 54 = .ok (.if_icmp .gt 12, 3) := by decide +kernel
theorem dX7_cut_57 : decode cX7_cut 57 = .ok (.iload_n 3, 1) := by decide +kernel
theorem dX7_cut_58 : decode cX7_cut 58 = .ok (.aload 4, 2) := by decide +kernel
theorem dX7_cut_60 : decode cX7_cut 60 = .ok (.getfield 162, 3) := by decide +kernel
theorem dX7_cut_63 : decode cX7_cut 63 = .ok (.if_icmp .lt 13, 3) := by decide +kernel
theorem dX7_cut_66 : decode cX7_cut 66 = .ok (.new 31, 3) := by decide +kernel
theorem dX7_cut_69 : decode cX7_cut 69 = .ok (.dup, 1) := by decide +kernel
theorem dX7_cut_70 : decode cX7_cut 70 = .ok (.ldc 163, 2) := by decide +kernel
theorem dX7_cut_72 : decode cX7_cut 72 = .ok (.invokespecial 35, 3) := by decide +kernel
theorem dX7_cut_75 : decode cX7_cut 75 = .ok (.athrow, 1) := by decide +kernel
theorem dX7_cut_76 : decode cX7_cut 76 = .ok (.aload 4, 2) := by decide +kernel
theorem dX7_cut_78 : decode cX7_cut 78 = .ok (.iload_n 2, 1) := by decide +kernel
theorem dX7_cut_79 : decode cX7_cut 79 = .ok (.iload_n 3, 1) := by decide +kernel
theorem dX7_cut_80 : decode cX7_cut 80 = .ok (.invokevirtual 165, 3) := by decide +kernel
theorem dX7_cut_83 : decode cX7_cut 83 = .ok (.aload_n 0, 1) := by decide +kernel
theorem dX7_cut_84 : decode cX7_cut 84 = .ok (.iload_n 1, 1) := by decide +kernel
theorem dX7_cut_85 : decode cX7_cut 85 = .ok (.iload_n 2, 1) := by decide +kernel
theorem dX7_cut_86 : decode cX7_cut 86 = .ok (.iload_n 3, 1) := by decide +kernel
theorem dX7_cut_87 : decode cX7_cut 87 = .ok (.aload 4, 2) := by decide +kernel
theorem dX7_cut_89 : decode cX7_cut 89 = .ok (.getfield 162, 3) := by decide +kernel
theorem dX7_cut_92 : decode cX7_cut 92 = .ok (.invokevirtual 169, 3) := by decide +kernel
theorem dX7_cut_95 : decode cX7_cut 95 = .ok (.aload 4, 2) := by decide +kernel
theorem dX7_cut_97 : decode cX7_cut 97 = .ok (.getfield 162, 3) := by decide +kernel
theorem dX7_cut_100 : decode cX7_cut 100 = .ok (.ireturn, 1) := by decide +kernel
theorem dX7_note_0 : decode cX7_note 0 = .ok (.aload_n 0, 1) := by decide +kernel
theorem dX7_note_1 : decode cX7_note 1 = .ok (.iload_n 1, 1) := by decide +kernel
theorem dX7_note_2 : decode cX7_note 2 = .ok (.invokevirtual 137, 3) := by decide +kernel
theorem dX7_note_5 : decode cX7_note 5 = .ok (.astore_n 3, 1) := by decide +kernel
theorem dX7_note_6 : decode cX7_note 6 = .ok (.aload_n 3, 1) := by decide +kernel
theorem dX7_note_7 : decode cX7_note 7 = .ok (.ifnull 11, 3) := by decide +kernel
theorem dX7_note_10 : decode cX7_note 10 = .ok (.aload_n 3, 1) := by decide +kernel
theorem dX7_note_11 : decode cX7_note 11 = .ok (.iload_n 2, 1) := by decide +kernel
theorem dX7_note_12 : decode cX7_note 12 = .ok (.invokevirtual 155, 3) := by decide +kernel
theorem dX7_note_15 : decode cX7_note 15 = .ok (.ifCond .ne 13, 3) := by decide +kernel
theorem dX7_note_18 : decode cX7_note 18 = .ok (.new 53, 3) := by decide +kernel
theorem dX7_note_21 : decode cX7_note 21 = .ok (.dup, 1) := by decide +kernel
theorem dX7_note_22 : decode cX7_note 22 = .ok (.ldc 158, 2) := by decide +kernel
theorem dX7_note_24 : decode cX7_note 24 = .ok (.invokespecial 57, 3) := by decide +kernel
theorem dX7_note_27 : decode cX7_note 27 = .ok (.athrow, 1) := by decide +kernel
theorem dX7_note_28 : decode cX7_note 28 = .ok (.aload_n 0, 1) := by decide +kernel
theorem dX7_note_29 : decode cX7_note 29 = .ok (.getfield 172, 3) := by decide +kernel
theorem dX7_note_32 : decode cX7_note 32 = .ok (.bipush 40, 2) := by decide +kernel
theorem dX7_note_34 : decode cX7_note 34 = .ok (.if_icmp .lt 13, 3) := by decide +kernel
theorem dX7_note_37 : decode cX7_note 37 = .ok (.new 31, 3) := by decide +kernel
theorem dX7_note_40 : decode cX7_note 40 = .ok (.dup, 1) := by decide +kernel
theorem dX7_note_41 : decode cX7_note 41 = .ok (.ldc 175, 2) := by decide +kernel
theorem dX7_note_43 : decode cX7_note 43 = .ok (.invokespecial 35, 3) := by decide +kernel
theorem dX7_note_46 : decode cX7_note 46 = .ok (.athrow, 1) := by decide +kernel
theorem dX7_note_47 : decode cX7_note 47 = .ok (.aload_n 0, 1) := by decide +kernel
theorem dX7_note_48 : decode cX7_note 48 = .ok (.getfield 23, 3) := by decide +kernel
theorem dX7_note_51 : decode cX7_note 51 = .ok (.aload_n 0, 1) := by decide +kernel
theorem dX7_note_52 : decode cX7_note 52 = .ok (.getfield 172, 3) := by decide +kernel
theorem dX7_note_55 : decode cX7_note 55 = .ok (.new 21, 3) := by decide +kernel
theorem dX7_note_58 : decode cX7_note 58 = .ok (.dup, 1) := by decide +kernel
theorem dX7_note_59 : decode cX7_note 59 = .ok (.iload_n 1, 1) := by decide +kernel
theorem dX7_note_60 : decode cX7_note 60 = .ok (.iload_n 2, 1) := by decide +kernel
theorem dX7_note_61 : decode cX7_note 61 = .ok (.invokespecial 177, 3) := by decide +kernel
theorem dX7_note_64 : decode cX7_note 64 = .ok (.aastore, 1) := by decide +kernel
theorem dX7_note_65 : decode cX7_note 65 = .ok (.aload_n 0, 1) := by decide +kernel
theorem dX7_note_66 : decode cX7_note 66 = .ok (.dup, 1) := by decide +kernel
theorem dX7_note_67 : decode cX7_note 67 = .ok (.getfield 172, 3) := by decide +kernel
theorem dX7_note_70 : decode cX7_note 70 = .ok (.dup_x1, 1) := by decide +kernel
theorem dX7_note_71 : decode cX7_note 71 = .ok (.iconst 1, 1) := by decide +kernel
theorem dX7_note_72 : decode cX7_note 72 = .ok (.iadd, 1) := by decide +kernel
theorem dX7_note_73 : decode cX7_note 73 = .ok (.putfield 172, 3) := by decide +kernel
theorem dX7_note_76 : decode cX7_note 76 = .ok (.ireturn, 1) := by decide +kernel
theorem dX7_settle_0 : decode cX7_settle 0 = .ok (.aload_n 0, 1) := by decide +kernel
theorem dX7_settle_1 : decode cX7_settle 1 = .ok (.iload_n 1, 1) := by decide +kernel
theorem dX7_settle_2 : decode cX7_settle 2 = .ok (.invokevirtual 179, 3) := by decide +kernel
theorem dX7_settle_5 : decode cX7_settle 5 = .ok (.astore_n 2, 1) := by decide +kernel
theorem dX7_settle_6 : decode cX7_settle 6 = .ok (.aload_n 2, 1) := by decide +kernel
theorem dX7_settle_7 : decode cX7_settle 7 = .ok (.ifnonnull 13, 3) := by decide +kernel
theorem dX7_settle_10 : decode cX7_settle 10 = .ok (.new 53, 3) := by decide +kernel
theorem dX7_settle_13 : decode cX7_settle 13 = .ok (.dup, 1) := by decide +kernel
theorem dX7_settle_14 : decode cX7_settle 14 = .ok (.ldc 183, 2) := by decide +kernel
theorem dX7_settle_16 : decode cX7_settle 16 = .ok (.invokespecial 57, 3) := by decide +kernel
theorem dX7_settle_19 : decode cX7_settle 19 = .ok (.athrow, 1) := by decide +kernel
theorem dX7_settle_20 : decode cX7_settle 20 = .ok (.aload_n 2, 1) := by decide +kernel
theorem dX7_settle_21 : decode cX7_settle 21 = .ok (.getfield 185, 3) := by decide +kernel
theorem dX7_settle_24 : decode cX7_settle 24 = .ok (.ifCond .eq 13, 3) := by decide +kernel
theorem dX7_settle_27 : decode cX7_settle 27 = .ok (.new 31, 3) := by decide +kernel
theorem dX7_settle_30 : decode cX7_settle 30 = .ok (.dup, 1) := by decide +kernel
theorem dX7_settle_31 : decode cX7_settle 31 = .ok (.ldc 189, 2) := by decide +kernel
theorem dX7_settle_33 : decode cX7_settle 33 = .ok (.invokespecial 35, 3) := by decide +kernel
theorem dX7_settle_36 : decode cX7_settle 36 = .ok (.athrow, 1) := by decide +kernel
theorem dX7_settle_37 : decode cX7_settle 37 = .ok (.aload_n 2, 1) := by decide +kernel
theorem dX7_settle_38 : decode cX7_settle 38 = .ok (.iconst 1, 1) := by decide +kernel
theorem dX7_settle_39 : decode cX7_settle 39 = .ok (.putfield 185, 3) := by decide +kernel
theorem dX7_settle_42 : decode cX7_settle 42 = .ok (.aload_n 0, 1) := by decide +kernel
theorem dX7_settle_43 : decode cX7_settle 43 = .ok (.aload_n 2, 1) := by decide +kernel
theorem dX7_settle_44 : decode cX7_settle 44 = .ok (.getfield 191, 3) := by decide +kernel
theorem dX7_settle_47 : decode cX7_settle 47 = .ok (.invokevirtual 194, 3) := by decide +kernel
theorem dX7_settle_50 : decode cX7_settle 50 = .ok (.ireturn, 1) := by decide +kernel
theorem dX7_ofNote_0 : decode cX7_ofNote 0 = .ok (.aload_n 0, 1) := by decide +kernel
theorem dX7_ofNote_1 : decode cX7_ofNote 1 = .ok (.iload_n 1, 1) := by decide +kernel
theorem dX7_ofNote_2 : decode cX7_ofNote 2 = .ok (.invokevirtual 179, 3) := by decide +kernel
theorem dX7_ofNote_5 : decode cX7_ofNote 5 = .ok (.astore_n 3, 1) := by decide +kernel
theorem dX7_ofNote_6 : decode cX7_ofNote 6 = .ok (.aload_n 3, 1) := by decide +kernel
theorem dX7_ofNote_7 : decode cX7_ofNote 7 = .ok (.ifnonnull 13, 3) := by decide +kernel
theorem dX7_ofNote_10 : decode cX7_ofNote 10 = .ok (.new 53, 3) := by decide +kernel
theorem dX7_ofNote_13 : decode cX7_ofNote 13 = .ok (.dup, 1) := by decide +kernel
theorem dX7_ofNote_14 : decode cX7_ofNote 14 = .ok (.ldc 183, 2) := by decide +kernel
theorem dX7_ofNote_16 : decode cX7_ofNote 16 = .ok (.invokespecial 57, 3) := by decide +kernel
theorem dX7_ofNote_19 : decode cX7_ofNote 19 = .ok (.athrow, 1) := by decide +kernel
theorem dX7_ofNote_20 : decode cX7_ofNote 20 = .ok (.iload_n 2, 1) := by decide +kernel
theorem dX7_ofNote_21 : decode cX7_ofNote 21 = .ok (.tableswitch 59 0 3 #[31, 36, 41, 54], 31) := by decide +kernel
theorem dX7_ofNote_52 : decode cX7_ofNote 52 = .ok (.aload_n 3, 1) := by decide +kernel
theorem dX7_ofNote_53 : decode cX7_ofNote 53 = .ok (.getfield 191, 3) := by decide +kernel
theorem dX7_ofNote_56 : decode cX7_ofNote 56 = .ok (.ireturn, 1) := by decide +kernel
theorem dX7_ofNote_57 : decode cX7_ofNote 57 = .ok (.aload_n 3, 1) := by decide +kernel
theorem dX7_ofNote_58 : decode cX7_ofNote 58 = .ok (.getfield 197, 3) := by decide +kernel
theorem dX7_ofNote_61 : decode cX7_ofNote 61 = .ok (.ireturn, 1) := by decide +kernel
theorem dX7_ofNote_62 : decode cX7_ofNote 62 = .ok (.aload_n 3, 1) := by decide +kernel
theorem dX7_ofNote_63 : decode cX7_ofNote 63 = .ok (.getfield 185, 3) := by decide +kernel
theorem dX7_ofNote_66 : decode cX7_ofNote 66 = .ok (.ifCond .eq 7, 3) := by decide +kernel
theorem dX7_ofNote_69 : decode cX7_ofNote 69 = .ok (.iconst 1, 1) := by decide +kernel
theorem dX7_ofNote_70 : decode cX7_ofNote 70 = .ok (.goto 4, 3) := by decide +kernel
theorem dX7_ofNote_73 : decode cX7_ofNote 73 = .ok (.iconst 0, 1) := by decide +kernel
theorem dX7_ofNote_74 : decode cX7_ofNote 74 = .ok (.ireturn, 1) := by decide +kernel
theorem dX7_ofNote_75 : decode cX7_ofNote 75 = .ok (.aload_n 3, 1) := by decide +kernel
theorem dX7_ofNote_76 : decode cX7_ofNote 76 = .ok (.getfield 200, 3) := by decide +kernel
theorem dX7_ofNote_79 : decode cX7_ofNote 79 = .ok (.ireturn, 1) := by decide +kernel
theorem dX7_ofNote_80 : decode cX7_ofNote 80 = .ok (.new 53, 3) := by decide +kernel
theorem dX7_ofNote_83 : decode cX7_ofNote 83 = .ok (.dup, 1) := by decide +kernel
theorem dX7_ofNote_84 : decode cX7_ofNote 84 = .ok (.ldc 125, 2) := by decide +kernel
theorem dX7_ofNote_86 : decode cX7_ofNote 86 = .ok (.invokespecial 57, 3) := by decide +kernel
theorem dX7_ofNote_89 : decode cX7_ofNote 89 = .ok (.athrow, 1) := by decide +kernel
theorem dX7_render_0 : decode cX7_render 0 = .ok (.aload_n 0, 1) := by decide +kernel
theorem dX7_render_1 : decode cX7_render 1 = .ok (.iload_n 1, 1) := by decide +kernel
theorem dX7_render_2 : decode cX7_render 2 = .ok (.invokevirtual 137, 3) := by decide +kernel
theorem dX7_render_5 : decode cX7_render 5 = .ok (.astore_n 2, 1) := by decide +kernel
theorem dX7_render_6 : decode cX7_render 6 = .ok (.aload_n 2, 1) := by decide +kernel
theorem dX7_render_7 : decode cX7_render 7 = .ok (.ifnonnull 13, 3) := by decide +kernel
theorem dX7_render_10 : decode cX7_render 10 = .ok (.new 53, 3) := by decide +kernel
theorem dX7_render_13 : decode cX7_render 13 = .ok (.dup, 1) := by decide +kernel
theorem dX7_render_14 : decode cX7_render 14 = .ok (.ldc 203, 2) := by decide +kernel
theorem dX7_render_16 : decode cX7_render 16 = .ok (.invokespecial 57, 3) := by decide +kernel
theorem dX7_render_19 : decode cX7_render 19 = .ok (.athrow, 1) := by decide +kernel
theorem dX7_render_20 : decode cX7_render 20 = .ok (.aload_n 0, 1) := by decide +kernel
theorem dX7_render_21 : decode cX7_render 21 = .ok (.getfield 205, 3) := by decide +kernel
theorem dX7_render_24 : decode cX7_render 24 = .ok (.istore_n 3, 1) := by decide +kernel
theorem dX7_render_25 : decode cX7_render 25 = .ok (.iconst 0, 1) := by decide +kernel
theorem dX7_render_26 : decode cX7_render 26 = .ok (.istore 4, 2) := by decide +kernel
theorem dX7_render_28 : decode cX7_render 28 = .ok (.iload 4, 2) := by decide +kernel
theorem dX7_render_30 : decode cX7_render 30 = .ok (.aload_n 2, 1) := by decide +kernel
theorem dX7_render_31 : decode cX7_render 31 = .ok (.getfield 162, 3) := by decide +kernel
theorem dX7_render_34 : decode cX7_render 34 = .ok (.if_icmp .ge 45, 3) := by decide +kernel
theorem dX7_render_37 : decode cX7_render 37 = .ok (.aload_n 2, 1) := by decide +kernel
theorem dX7_render_38 : decode cX7_render 38 = .ok (.iload 4, 2) := by decide +kernel
theorem dX7_render_40 : decode cX7_render 40 = .ok (.invokevirtual 208, 3) := by decide +kernel
theorem dX7_render_43 : decode cX7_render 43 = .ok (.astore 5, 2) := by decide +kernel
theorem dX7_render_45 : decode cX7_render 45 = .ok (.aload 5, 2) := by decide +kernel
theorem dX7_render_47 : decode cX7_render 47 = .ok (.ifnull 26, 3) := by decide +kernel
theorem dX7_render_50 : decode cX7_render 50 = .ok (.aload_n 0, 1) := by decide +kernel
theorem dX7_render_51 : decode cX7_render 51 = .ok (.aload_n 2, 1) := by decide +kernel
theorem dX7_render_52 : decode cX7_render 52 = .ok (.aload 5, 2) := by decide +kernel
theorem dX7_render_54 : decode cX7_render 54 = .ok (.invokevirtual 212, 3) := by decide +kernel
theorem dX7_render_57 : decode cX7_render 57 = .ok (.ifCond .eq 9, 3) := by decide +kernel
theorem dX7_render_60 : decode cX7_render 60 = .ok (.aload_n 0, 1) := by decide +kernel
theorem dX7_render_61 : decode cX7_render 61 = .ok (.aload 5, 2) := by decide +kernel
theorem dX7_render_63 : decode cX7_render 63 = .ok (.invokevirtual 216, 3) := by decide +kernel
theorem dX7_render_66 : decode cX7_render 66 = .ok (.aload_n 0, 1) := by decide +kernel
theorem dX7_render_67 : decode cX7_render 67 = .ok (.aload_n 2, 1) := by decide +kernel
theorem dX7_render_68 : decode cX7_render 68 = .ok (.aload 5, 2) := by decide +kernel
theorem dX7_render_70 : decode cX7_render 70 = .ok (.invokevirtual 220, 3) := by decide +kernel
theorem dX7_render_73 : decode cX7_render 73 = .ok (.iinc 4 1, 3) := by decide +kernel
theorem dX7_render_76 : decode cX7_render 76 = .ok (.goto (-48), 3) := by decide +kernel
theorem dX7_render_79 : decode cX7_render 79 = .ok (.aload_n 0, 1) := by decide +kernel
theorem dX7_render_80 : decode cX7_render 80 = .ok (.getfield 205, 3) := by decide +kernel
theorem dX7_render_83 : decode cX7_render 83 = .ok (.iload_n 3, 1) := by decide +kernel
theorem dX7_render_84 : decode cX7_render 84 = .ok (.isub, 1) := by decide +kernel
theorem dX7_render_85 : decode cX7_render 85 = .ok (.ireturn, 1) := by decide +kernel
theorem dX7_renderOne_0 : decode cX7_renderOne 0 = .ok (.aload_n 0, 1) := by decide +kernel
theorem dX7_renderOne_1 : decode cX7_renderOne 1 = .ok (.iload_n 1, 1) := by decide +kernel
theorem dX7_renderOne_2 : decode cX7_renderOne 2 = .ok (.invokevirtual 137, 3) := by decide +kernel
theorem dX7_renderOne_5 : decode cX7_renderOne 5 = .ok (.astore_n 3, 1) := by decide +kernel
theorem dX7_renderOne_6 : decode cX7_renderOne 6 = .ok (.aload_n 3, 1) := by decide +kernel
theorem dX7_renderOne_7 : decode cX7_renderOne 7 = .ok (.ifnonnull 7, 3) := by decide +kernel
theorem dX7_renderOne_10 : decode cX7_renderOne 10 = .ok (.aconst_null, 1) := by decide +kernel
theorem dX7_renderOne_11 : decode cX7_renderOne 11 = .ok (.goto 8, 3) := by decide +kernel
theorem dX7_renderOne_14 : decode cX7_renderOne 14 = .ok (.aload_n 3, 1) := by decide +kernel
theorem dX7_renderOne_15 : decode cX7_renderOne 15 = .ok (.iload_n 2, 1) := by decide +kernel
theorem dX7_renderOne_16 : decode cX7_renderOne 16 = .ok (.invokevirtual 208, 3) := by decide +kernel
theorem dX7_renderOne_19 : decode cX7_renderOne 19 = .ok (.astore 4, 2) := by decide +kernel
theorem dX7_renderOne_21 : decode cX7_renderOne 21 = .ok (.aload_n 3, 1) := by decide +kernel
theorem dX7_renderOne_22 : decode cX7_renderOne 22 = .ok (.ifnull 8, 3) := by decide +kernel
theorem dX7_renderOne_25 : decode cX7_renderOne 25 = .ok (.aload 4, 2) := by decide +kernel
theorem dX7_renderOne_27 : decode cX7_renderOne 27 = .ok (.ifnonnull 13, 3) := by decide +kernel
theorem dX7_renderOne_30 : decode cX7_renderOne 30 = .ok (.new 53, 3) := by decide +kernel
theorem dX7_renderOne_33 : decode cX7_renderOne 33 = .ok (.dup, 1) := by decide +kernel
theorem dX7_renderOne_34 : decode cX7_renderOne 34 = .ok (.ldc 158, 2) := by decide +kernel
theorem dX7_renderOne_36 : decode cX7_renderOne 36 = .ok (.invokespecial 57, 3) := by decide +kernel
theorem dX7_renderOne_39 : decode cX7_renderOne 39 = .ok (.athrow, 1) := by decide +kernel
theorem dX7_renderOne_40 : decode cX7_renderOne 40 = .ok (.aload_n 0, 1) := by decide +kernel
theorem dX7_renderOne_41 : decode cX7_renderOne 41 = .ok (.aload_n 3, 1) := by decide +kernel
theorem dX7_renderOne_42 : decode cX7_renderOne 42 = .ok (.aload 4, 2) := by decide +kernel
theorem dX7_renderOne_44 : decode cX7_renderOne 44 = .ok (.invokevirtual 212, 3) := by decide +kernel
theorem dX7_renderOne_47 : decode cX7_renderOne 47 = .ok (.istore 5, 2) := by decide +kernel
theorem dX7_renderOne_49 : decode cX7_renderOne 49 = .ok (.aload_n 0, 1) := by decide +kernel
theorem dX7_renderOne_50 : decode cX7_renderOne 50 = .ok (.aload 4, 2) := by decide +kernel
theorem dX7_renderOne_52 : decode cX7_renderOne 52 = .ok (.invokevirtual 216, 3) := by decide +kernel
theorem dX7_renderOne_55 : decode cX7_renderOne 55 = .ok (.aload_n 0, 1) := by decide +kernel
theorem dX7_renderOne_56 : decode cX7_renderOne 56 = .ok (.aload_n 3, 1) := by decide +kernel
theorem dX7_renderOne_57 : decode cX7_renderOne 57 = .ok (.aload 4, 2) := by decide +kernel
theorem dX7_renderOne_59 : decode cX7_renderOne 59 = .ok (.invokevirtual 220, 3) := by decide +kernel
theorem dX7_renderOne_62 : decode cX7_renderOne 62 = .ok (.iload 5, 2) := by decide +kernel
theorem dX7_renderOne_64 : decode cX7_renderOne 64 = .ok (.ireturn, 1) := by decide +kernel
theorem dX7_needs_0 : decode cX7_needs 0 = .ok (.aload_n 0, 1) := by decide +kernel
theorem dX7_needs_1 : decode cX7_needs 1 = .ok (.iload_n 1, 1) := by decide +kernel
theorem dX7_needs_2 : decode cX7_needs 2 = .ok (.invokevirtual 137, 3) := by decide +kernel
theorem dX7_needs_5 : decode cX7_needs 5 = .ok (.astore_n 2, 1) := by decide +kernel
theorem dX7_needs_6 : decode cX7_needs 6 = .ok (.aload_n 2, 1) := by decide +kernel
theorem dX7_needs_7 : decode cX7_needs 7 = .ok (.ifnonnull 13, 3) := by decide +kernel
theorem dX7_needs_10 : decode cX7_needs 10 = .ok (.new 53, 3) := by decide +kernel
theorem dX7_needs_13 : decode cX7_needs 13 = .ok (.dup, 1) := by decide +kernel
theorem dX7_needs_14 : decode cX7_needs 14 = .ok (.ldc 203, 2) := by decide +kernel
theorem dX7_needs_16 : decode cX7_needs 16 = .ok (.invokespecial 57, 3) := by decide +kernel
theorem dX7_needs_19 : decode cX7_needs 19 = .ok (.athrow, 1) := by decide +kernel
theorem dX7_needs_20 : decode cX7_needs 20 = .ok (.aload_n 0, 1) := by decide +kernel
theorem dX7_needs_21 : decode cX7_needs 21 = .ok (.aload_n 2, 1) := by decide +kernel
theorem dX7_needs_22 : decode cX7_needs 22 = .ok (.invokevirtual 224, 3) := by decide +kernel
theorem dX7_needs_25 : decode cX7_needs 25 = .ok (.ireturn, 1) := by decide +kernel
theorem dX7_mixes_0 : decode cX7_mixes 0 = .ok (.aload_n 0, 1) := by decide +kernel
theorem dX7_mixes_1 : decode cX7_mixes 1 = .ok (.iload_n 1, 1) := by decide +kernel
theorem dX7_mixes_2 : decode cX7_mixes 2 = .ok (.invokevirtual 137, 3) := by decide +kernel
theorem dX7_mixes_5 : decode cX7_mixes 5 = .ok (.astore_n 2, 1) := by decide +kernel
theorem dX7_mixes_6 : decode cX7_mixes 6 = .ok (.aload_n 2, 1) := by decide +kernel
theorem dX7_mixes_7 : decode cX7_mixes 7 = .ok (.ifnonnull 13, 3) := by decide +kernel
theorem dX7_mixes_10 : decode cX7_mixes 10 = .ok (.new 53, 3) := by decide +kernel
theorem dX7_mixes_13 : decode cX7_mixes 13 = .ok (.dup, 1) := by decide +kernel
theorem dX7_mixes_14 : decode cX7_mixes 14 = .ok (.ldc 203, 2) := by decide +kernel
theorem dX7_mixes_16 : decode cX7_mixes 16 = .ok (.invokespecial 57, 3) := by decide +kernel
theorem dX7_mixes_19 : decode cX7_mixes 19 = .ok (.athrow, 1) := by decide +kernel
theorem dX7_mixes_20 : decode cX7_mixes 20 = .ok (.iconst 0, 1) := by decide +kernel
theorem dX7_mixes_21 : decode cX7_mixes 21 = .ok (.istore_n 3, 1) := by decide +kernel
theorem dX7_mixes_22 : decode cX7_mixes 22 = .ok (.iconst 0, 1) := by decide +kernel
theorem dX7_mixes_23 : decode cX7_mixes 23 = .ok (.istore 4, 2) := by decide +kernel
theorem dX7_mixes_25 : decode cX7_mixes 25 = .ok (.iload 4, 2) := by decide +kernel
theorem dX7_mixes_27 : decode cX7_mixes 27 = .ok (.aload_n 0, 1) := by decide +kernel
theorem dX7_mixes_28 : decode cX7_mixes 28 = .ok (.getfield 27, 3) := by decide +kernel
theorem dX7_mixes_31 : decode cX7_mixes 31 = .ok (.if_icmp .ge 30, 3) := by decide +kernel
theorem dX7_mixes_34 : decode cX7_mixes 34 = .ok (.aload_n 2, 1) := by decide +kernel
theorem dX7_mixes_35 : decode cX7_mixes 35 = .ok (.iload 4, 2) := by decide +kernel
theorem dX7_mixes_37 : decode cX7_mixes 37 = .ok (.invokevirtual 228, 3) := by decide +kernel
theorem dX7_mixes_40 : decode cX7_mixes 40 = .ok (.ifCond .eq 15, 3) := by decide +kernel
theorem dX7_mixes_43 : decode cX7_mixes 43 = .ok (.aload_n 2, 1) := by decide +kernel
theorem dX7_mixes_44 : decode cX7_mixes 44 = .ok (.iload 4, 2) := by decide +kernel
theorem dX7_mixes_46 : decode cX7_mixes 46 = .ok (.invokevirtual 231, 3) := by decide +kernel
theorem dX7_mixes_49 : decode cX7_mixes 49 = .ok (.ifCond .eq 6, 3) := by decide +kernel
theorem dX7_mixes_52 : decode cX7_mixes 52 = .ok (.iinc 3 1, 3) := by decide +kernel
theorem dX7_mixes_55 : decode cX7_mixes 55 = .ok (.iinc 4 1, 3) := by decide +kernel
theorem dX7_mixes_58 : decode cX7_mixes 58 = .ok (.goto (-33), 3) := by decide +kernel
theorem dX7_mixes_61 : decode cX7_mixes 61 = .ok (.iload_n 3, 1) := by decide +kernel
theorem dX7_mixes_62 : decode cX7_mixes 62 = .ok (.ireturn, 1) := by decide +kernel
theorem dX7_ofFrame_0 : decode cX7_ofFrame 0 = .ok (.aload_n 0, 1) := by decide +kernel
theorem dX7_ofFrame_1 : decode cX7_ofFrame 1 = .ok (.iload_n 1, 1) := by decide +kernel
theorem dX7_ofFrame_2 : decode cX7_ofFrame 2 = .ok (.invokevirtual 137, 3) := by decide +kernel
theorem dX7_ofFrame_5 : decode cX7_ofFrame 5 = .ok (.astore 4, 2) := by decide +kernel
theorem dX7_ofFrame_7 : decode cX7_ofFrame 7 = .ok (.aload 4, 2) := by decide +kernel
theorem dX7_ofFrame_9 : decode cX7_ofFrame 9 = .ok (.ifnonnull 7, 3) := by decide +kernel
theorem dX7_ofFrame_12 : decode cX7_ofFrame 12 = .ok (.aconst_null, 1) := by decide +kernel
theorem dX7_ofFrame_13 : decode cX7_ofFrame 13 = .ok (.goto 9, 3) := by decide +kernel
theorem dX7_ofFrame_16 : decode cX7_ofFrame 16 = .ok (.aload 4, 2) := by decide +kernel
theorem dX7_ofFrame_18 : decode cX7_ofFrame 18 = .ok (.iload_n 2, 1) := by decide +kernel
theorem dX7_ofFrame_19 : decode cX7_ofFrame 19 = .ok (.invokevirtual 208, 3) := by decide +kernel
theorem dX7_ofFrame_22 : decode cX7_ofFrame 22 = .ok (.astore 5, 2) := by decide +kernel
theorem dX7_ofFrame_24 : decode cX7_ofFrame 24 = .ok (.aload 4, 2) := by decide +kernel
theorem dX7_ofFrame_26 : decode cX7_ofFrame 26 = .ok (.ifnull 8, 3) := by decide +kernel
theorem dX7_ofFrame_29 : decode cX7_ofFrame 29 = .ok (.aload 5, 2) := by decide +kernel
theorem dX7_ofFrame_31 : decode cX7_ofFrame 31 = .ok (.ifnonnull 13, 3) := by decide +kernel
theorem dX7_ofFrame_34 : decode cX7_ofFrame 34 = .ok (.new 53, 3) := by decide +kernel
theorem dX7_ofFrame_37 : decode cX7_ofFrame 37 = .ok (.dup, 1) := by decide +kernel
theorem dX7_ofFrame_38 : decode cX7_ofFrame 38 = .ok (.ldc 158, 2) := by decide +kernel
theorem dX7_ofFrame_40 : decode cX7_ofFrame 40 = .ok (.invokespecial 57, 3) := by decide +kernel
theorem dX7_ofFrame_43 : decode cX7_ofFrame 43 = .ok (.athrow, 1) := by decide +kernel
theorem dX7_ofFrame_44 : decode cX7_ofFrame 44 = .ok (.iload_n 3, 1) := by decide +kernel
theorem dX7_ofFrame_45 : decode cX7_ofFrame 45 = .ok (.tableswitch 98 0 5 #[39, 45, 59, 76, 85, 92], 39) := by decide +kernel
theorem dX7_ofFrame_84 : decode cX7_ofFrame 84 = .ok (.aload 5, 2) := by decide +kernel
theorem dX7_ofFrame_86 : decode cX7_ofFrame 86 = .ok (.getfield 234, 3) := by decide +kernel
theorem dX7_ofFrame_89 : decode cX7_ofFrame 89 = .ok (.ireturn, 1) := by decide +kernel
theorem dX7_ofFrame_90 : decode cX7_ofFrame 90 = .ok (.aload 5, 2) := by decide +kernel
theorem dX7_ofFrame_92 : decode cX7_ofFrame 92 = .ok (.getfield 239, 3) := by decide +kernel
theorem dX7_ofFrame_95 : decode cX7_ofFrame 95 = .ok (.ifCond .le 7, 3) := by decide +kernel
theorem dX7_ofFrame_98 : decode cX7_ofFrame 98 = .ok (.iconst 1, 1) := by decide +kernel
theorem dX7_ofFrame_99 : decode cX7_ofFrame 99 = .ok (.goto 4, 3) := by decide +kernel
theorem dX7_ofFrame_102 : decode cX7_ofFrame 102 = .ok (.iconst 0, 1) := by decide +kernel
theorem dX7_ofFrame_103 : decode cX7_ofFrame 103 = .ok (.ireturn, 1) := by decide +kernel
theorem dX7_ofFrame_104 : decode cX7_ofFrame 104 = .ok (.aload_n 0, 1) := by decide +kernel
theorem dX7_ofFrame_105 : decode cX7_ofFrame 105 = .ok (.aload 4, 2) := by decide +kernel
theorem dX7_ofFrame_107 : decode cX7_ofFrame 107 = .ok (.aload 5, 2) := by decide +kernel
theorem dX7_ofFrame_109 : decode cX7_ofFrame 109 = .ok (.invokevirtual 212, 3) := by decide +kernel
theorem dX7_ofFrame_112 : decode cX7_ofFrame 112 = .ok (.ifCond .eq 7, 3) := by decide +kernel
theorem dX7_ofFrame_115 : decode cX7_ofFrame 115 = .ok (.iconst 1, 1) := by decide +kernel
theorem dX7_ofFrame_116 : decode cX7_ofFrame 116 = .ok (.goto 4, 3) := by decide +kernel
theorem dX7_ofFrame_119 : decode cX7_ofFrame 119 = .ok (.iconst 0, 1) := by decide +kernel
theorem dX7_ofFrame_120 : decode cX7_ofFrame 120 = .ok (.ireturn, 1) := by decide +kernel
theorem dX7_ofFrame_121 : decode cX7_ofFrame 121 = .ok (.aload_n 0, 1) := by decide +kernel
theorem dX7_ofFrame_122 : decode cX7_ofFrame 122 = .ok (.aload 4, 2) := by decide +kernel
theorem dX7_ofFrame_124 : decode cX7_ofFrame 124 = .ok (.aload 5, 2) := by decide +kernel
theorem dX7_ofFrame_126 : decode cX7_ofFrame 126 = .ok (.invokevirtual 242, 3) := by decide +kernel
theorem dX7_ofFrame_129 : decode cX7_ofFrame 129 = .ok (.ireturn, 1) := by decide +kernel
theorem dX7_ofFrame_130 : decode cX7_ofFrame 130 = .ok (.aload_n 0, 1) := by decide +kernel
theorem dX7_ofFrame_131 : decode cX7_ofFrame 131 = .ok (.iload_n 1, 1) := by decide +kernel
theorem dX7_ofFrame_132 : decode cX7_ofFrame 132 = .ok (.iload_n 2, 1) := by decide +kernel
theorem dX7_ofFrame_133 : decode cX7_ofFrame 133 = .ok (.invokevirtual 246, 3) := by decide +kernel
theorem dX7_ofFrame_136 : decode cX7_ofFrame 136 = .ok (.ireturn, 1) := by decide +kernel
theorem dX7_ofFrame_137 : decode cX7_ofFrame 137 = .ok (.aload 5, 2) := by decide +kernel
theorem dX7_ofFrame_139 : decode cX7_ofFrame 139 = .ok (.getfield 239, 3) := by decide +kernel
theorem dX7_ofFrame_142 : decode cX7_ofFrame 142 = .ok (.ireturn, 1) := by decide +kernel
theorem dX7_ofFrame_143 : decode cX7_ofFrame 143 = .ok (.new 53, 3) := by decide +kernel
theorem dX7_ofFrame_146 : decode cX7_ofFrame 146 = .ok (.dup, 1) := by decide +kernel
theorem dX7_ofFrame_147 : decode cX7_ofFrame 147 = .ok (.ldc 125, 2) := by decide +kernel
theorem dX7_ofFrame_149 : decode cX7_ofFrame 149 = .ok (.invokespecial 57, 3) := by decide +kernel
theorem dX7_ofFrame_152 : decode cX7_ofFrame 152 = .ok (.athrow, 1) := by decide +kernel
theorem dX7_kept_0 : decode cX7_kept 0 = .ok (.aload_n 0, 1) := by decide +kernel
theorem dX7_kept_1 : decode cX7_kept 1 = .ok (.iload_n 1, 1) := by decide +kernel
theorem dX7_kept_2 : decode cX7_kept 2 = .ok (.invokevirtual 137, 3) := by decide +kernel
theorem dX7_kept_5 : decode cX7_kept 5 = .ok (.astore 4, 2) := by decide +kernel
theorem dX7_kept_7 : decode cX7_kept 7 = .ok (.aload 4, 2) := by decide +kernel
theorem dX7_kept_9 : decode cX7_kept 9 = .ok (.ifnonnull 7, 3) := by decide +kernel
theorem dX7_kept_12 : decode cX7_kept 12 = .ok (.aconst_null, 1) := by decide +kernel
theorem dX7_kept_13 : decode cX7_kept 13 = .ok (.goto 9, 3) := by decide +kernel
theorem dX7_kept_16 : decode cX7_kept 16 = .ok (.aload 4, 2) := by decide +kernel
theorem dX7_kept_18 : decode cX7_kept 18 = .ok (.iload_n 2, 1) := by decide +kernel
theorem dX7_kept_19 : decode cX7_kept 19 = .ok (.invokevirtual 208, 3) := by decide +kernel
theorem dX7_kept_22 : decode cX7_kept 22 = .ok (.astore 5, 2) := by decide +kernel
theorem dX7_kept_24 : decode cX7_kept 24 = .ok (.aload 5, 2) := by decide +kernel
theorem dX7_kept_26 : decode cX7_kept 26 = .ok (.ifnull 11, 3) := by decide +kernel
theorem dX7_kept_29 : decode cX7_kept 29 = .ok (.aload_n 0, 1) := by decide +kernel
theorem dX7_kept_30 : decode cX7_kept 30 = .ok (.iload_n 3, 1) := by decide +kernel
theorem dX7_kept_31 : decode cX7_kept 31 = .ok (.invokevirtual 39, 3) := by decide +kernel
theorem dX7_kept_34 : decode cX7_kept 34 = .ok (.ifnonnull 13, 3) := by decide +kernel
theorem dX7_kept_37 : decode cX7_kept 37 = .ok (.new 53, 3) := by decide +kernel
theorem dX7_kept_40 : decode cX7_kept 40 = .ok (.dup, 1) := by decide +kernel
theorem dX7_kept_41 : decode cX7_kept 41 = .ok (.ldc 249, 2) := by decide +kernel
theorem dX7_kept_43 : decode cX7_kept 43 = .ok (.invokespecial 57, 3) := by decide +kernel
theorem dX7_kept_46 : decode cX7_kept 46 = .ok (.athrow, 1) := by decide +kernel
theorem dX7_kept_47 : decode cX7_kept 47 = .ok (.aload 5, 2) := by decide +kernel
theorem dX7_kept_49 : decode cX7_kept 49 = .ok (.iload_n 3, 1) := by decide +kernel
theorem dX7_kept_50 : decode cX7_kept 50 = .ok (.invokevirtual 251, 3) := by decide +kernel
theorem dX7_kept_53 : decode cX7_kept 53 = .ok (.ireturn, 1) := by decide +kernel
theorem dX7_count_0 : decode cX7_count 0 = .ok (.iload_n 1, 1) := by decide +kernel
theorem dX7_count_1 : decode cX7_count 1 = .ok (.tableswitch 78 0 6 #[43, 48, 53, 58, 63, 68, 73], 43) := by decide +kernel
theorem dX7_count_44 : decode cX7_count 44 = .ok (.aload_n 0, 1) := by decide +kernel
theorem dX7_count_45 : decode cX7_count 45 = .ok (.getfield 27, 3) := by decide +kernel
theorem dX7_count_48 : decode cX7_count 48 = .ok (.ireturn, 1) := by decide +kernel
theorem dX7_count_49 : decode cX7_count 49 = .ok (.aload_n 0, 1) := by decide +kernel
theorem dX7_count_50 : decode cX7_count 50 = .ok (.invokevirtual 254, 3) := by decide +kernel
theorem dX7_count_53 : decode cX7_count 53 = .ok (.ireturn, 1) := by decide +kernel
theorem dX7_count_54 : decode cX7_count 54 = .ok (.aload_n 0, 1) := by decide +kernel
theorem dX7_count_55 : decode cX7_count 55 = .ok (.getfield 129, 3) := by decide +kernel
theorem dX7_count_58 : decode cX7_count 58 = .ok (.ireturn, 1) := by decide +kernel
theorem dX7_count_59 : decode cX7_count 59 = .ok (.aload_n 0, 1) := by decide +kernel
theorem dX7_count_60 : decode cX7_count 60 = .ok (.invokevirtual 257, 3) := by decide +kernel
theorem dX7_count_63 : decode cX7_count 63 = .ok (.ireturn, 1) := by decide +kernel
theorem dX7_count_64 : decode cX7_count 64 = .ok (.aload_n 0, 1) := by decide +kernel
theorem dX7_count_65 : decode cX7_count 65 = .ok (.invokevirtual 260, 3) := by decide +kernel
theorem dX7_count_68 : decode cX7_count 68 = .ok (.ireturn, 1) := by decide +kernel
theorem dX7_count_69 : decode cX7_count 69 = .ok (.aload_n 0, 1) := by decide +kernel
theorem dX7_count_70 : decode cX7_count 70 = .ok (.getfield 205, 3) := by decide +kernel
theorem dX7_count_73 : decode cX7_count 73 = .ok (.ireturn, 1) := by decide +kernel
theorem dX7_count_74 : decode cX7_count 74 = .ok (.aload_n 0, 1) := by decide +kernel
theorem dX7_count_75 : decode cX7_count 75 = .ok (.invokevirtual 263, 3) := by decide +kernel
theorem dX7_count_78 : decode cX7_count 78 = .ok (.ireturn, 1) := by decide +kernel
theorem dX7_count_79 : decode cX7_count 79 = .ok (.new 76, 3) := by decide +kernel
theorem dX7_count_82 : decode cX7_count 82 = .ok (.dup, 1) := by decide +kernel
theorem dX7_count_83 : decode cX7_count 83 = .ok (.ldc 125, 2) := by decide +kernel
theorem dX7_count_85 : decode cX7_count 85 = .ok (.invokespecial 80, 3) := by decide +kernel
theorem dX7_count_88 : decode cX7_count 88 = .ok (.athrow, 1) := by decide +kernel
theorem dX7_assetAt_0 : decode cX7_assetAt 0 = .ok (.iload_n 1, 1) := by decide +kernel
theorem dX7_assetAt_1 : decode cX7_assetAt 1 = .ok (.ifCond .lt 11, 3) := by decide +kernel
theorem dX7_assetAt_4 : decode cX7_assetAt 4 = .ok (.iload_n 1, 1) := by decide +kernel
theorem dX7_assetAt_5 : decode cX7_assetAt 5 = .ok (.aload_n 0, 1) := by decide +kernel
theorem dX7_assetAt_6 : decode cX7_assetAt 6 = .ok (.getfield 27, 3) := by decide +kernel
theorem dX7_assetAt_9 : decode cX7_assetAt 9 = .ok (.if_icmp .lt 7, 3) := by decide +kernel
theorem dX7_assetAt_12 : decode cX7_assetAt 12 = .ok (.aconst_null, 1) := by decide +kernel
theorem dX7_assetAt_13 : decode cX7_assetAt 13 = .ok (.goto 9, 3) := by decide +kernel
theorem dX7_assetAt_16 : decode cX7_assetAt 16 = .ok (.aload_n 0, 1) := by decide +kernel
theorem dX7_assetAt_17 : decode cX7_assetAt 17 = .ok (.getfield 11, 3) := by decide +kernel
theorem dX7_assetAt_20 : decode cX7_assetAt 20 = .ok (.iload_n 1, 1) := by decide +kernel
theorem dX7_assetAt_21 : decode cX7_assetAt 21 = .ok (.aaload, 1) := by decide +kernel
theorem dX7_assetAt_22 : decode cX7_assetAt 22 = .ok (.areturn, 1) := by decide +kernel
theorem dX7_sceneAt_0 : decode cX7_sceneAt 0 = .ok (.iload_n 1, 1) := by decide +kernel
theorem dX7_sceneAt_1 : decode cX7_sceneAt 1 = .ok (.ifCond .lt 11, 3) := by decide +kernel
theorem dX7_sceneAt_4 : decode cX7_sceneAt 4 = .ok (.iload_n 1, 1) := by decide +kernel
theorem dX7_sceneAt_5 : decode cX7_sceneAt 5 = .ok (.aload_n 0, 1) := by decide +kernel
theorem dX7_sceneAt_6 : decode cX7_sceneAt 6 = .ok (.getfield 129, 3) := by decide +kernel
theorem dX7_sceneAt_9 : decode cX7_sceneAt 9 = .ok (.if_icmp .lt 7, 3) := by decide +kernel
theorem dX7_sceneAt_12 : decode cX7_sceneAt 12 = .ok (.aconst_null, 1) := by decide +kernel
theorem dX7_sceneAt_13 : decode cX7_sceneAt 13 = .ok (.goto 9, 3) := by decide +kernel
theorem dX7_sceneAt_16 : decode cX7_sceneAt 16 = .ok (.aload_n 0, 1) := by decide +kernel
theorem dX7_sceneAt_17 : decode cX7_sceneAt 17 = .ok (.getfield 17, 3) := by decide +kernel
theorem dX7_sceneAt_20 : decode cX7_sceneAt 20 = .ok (.iload_n 1, 1) := by decide +kernel
theorem dX7_sceneAt_21 : decode cX7_sceneAt 21 = .ok (.aaload, 1) := by decide +kernel
theorem dX7_sceneAt_22 : decode cX7_sceneAt 22 = .ok (.areturn, 1) := by decide +kernel
theorem dX7_noteAt_0 : decode cX7_noteAt 0 = .ok (.iload_n 1, 1) := by decide +kernel
theorem dX7_noteAt_1 : decode cX7_noteAt 1 = .ok (.ifCond .lt 11, 3) := by decide +kernel
theorem dX7_noteAt_4 : decode cX7_noteAt 4 = .ok (.iload_n 1, 1) := by decide +kernel
theorem dX7_noteAt_5 : decode cX7_noteAt 5 = .ok (.aload_n 0, 1) := by decide +kernel
theorem dX7_noteAt_6 : decode cX7_noteAt 6 = .ok (.getfield 172, 3) := by decide +kernel
theorem dX7_noteAt_9 : decode cX7_noteAt 9 = .ok (.if_icmp .lt 7, 3) := by decide +kernel
theorem dX7_noteAt_12 : decode cX7_noteAt 12 = .ok (.aconst_null, 1) := by decide +kernel
theorem dX7_noteAt_13 : decode cX7_noteAt 13 = .ok (.goto 9, 3) := by decide +kernel
theorem dX7_noteAt_16 : decode cX7_noteAt 16 = .ok (.aload_n 0, 1) := by decide +kernel
theorem dX7_noteAt_17 : decode cX7_noteAt 17 = .ok (.getfield 23, 3) := by decide +kernel
theorem dX7_noteAt_20 : decode cX7_noteAt 20 = .ok (.iload_n 1, 1) := by decide +kernel
theorem dX7_noteAt_21 : decode cX7_noteAt 21 = .ok (.aaload, 1) := by decide +kernel
theorem dX7_noteAt_22 : decode cX7_noteAt 22 = .ok (.areturn, 1) := by decide +kernel
theorem dX7_draftCurve_0 : decode cX7_draftCurve 0 = .ok (.aload_n 0, 1) := by decide +kernel
theorem dX7_draftCurve_1 : decode cX7_draftCurve 1 = .ok (.iload_n 1, 1) := by decide +kernel
theorem dX7_draftCurve_2 : decode cX7_draftCurve 2 = .ok (.invokevirtual 39, 3) := by decide +kernel
theorem dX7_draftCurve_5 : decode cX7_draftCurve 5 = .ok (.astore_n 3, 1) := by decide +kernel
theorem dX7_draftCurve_6 : decode cX7_draftCurve 6 = .ok (.aload_n 3, 1) := by decide +kernel
theorem dX7_draftCurve_7 : decode cX7_draftCurve 7 = .ok (.ifnonnull 7, 3) := by decide +kernel
theorem dX7_draftCurve_10 : decode cX7_draftCurve 10 = .ok (.aconst_null, 1) := by decide +kernel
theorem dX7_draftCurve_11 : decode cX7_draftCurve 11 = .ok (.goto 11, 3) := by decide +kernel
theorem dX7_draftCurve_14 : decode cX7_draftCurve 14 = .ok (.aload_n 3, 1) := by decide +kernel
theorem dX7_draftCurve_15 : decode cX7_draftCurve 15 = .ok (.getfield 43, 3) := by decide +kernel
theorem dX7_draftCurve_18 : decode cX7_draftCurve 18 = .ok (.iload_n 2, 1) := by decide +kernel
theorem dX7_draftCurve_19 : decode cX7_draftCurve 19 = .ok (.invokevirtual 266, 3) := by decide +kernel
theorem dX7_draftCurve_22 : decode cX7_draftCurve 22 = .ok (.areturn, 1) := by decide +kernel
theorem dX7_rigOf_0 : decode cX7_rigOf 0 = .ok (.aload_n 0, 1) := by decide +kernel
theorem dX7_rigOf_1 : decode cX7_rigOf 1 = .ok (.iload_n 1, 1) := by decide +kernel
theorem dX7_rigOf_2 : decode cX7_rigOf 2 = .ok (.invokevirtual 39, 3) := by decide +kernel
theorem dX7_rigOf_5 : decode cX7_rigOf 5 = .ok (.astore_n 3, 1) := by decide +kernel
theorem dX7_rigOf_6 : decode cX7_rigOf 6 = .ok (.aload_n 3, 1) := by decide +kernel
theorem dX7_rigOf_7 : decode cX7_rigOf 7 = .ok (.ifnonnull 5, 3) := by decide +kernel
theorem dX7_rigOf_10 : decode cX7_rigOf 10 = .ok (.aconst_null, 1) := by decide +kernel
theorem dX7_rigOf_11 : decode cX7_rigOf 11 = .ok (.areturn, 1) := by decide +kernel
theorem dX7_rigOf_12 : decode cX7_rigOf 12 = .ok (.iload_n 2, 1) := by decide +kernel
theorem dX7_rigOf_13 : decode cX7_rigOf 13 = .ok (.iconst (-1), 1) := by decide +kernel
theorem dX7_rigOf_14 : decode cX7_rigOf 14 = .ok (.if_icmp .ne 10, 3) := by decide +kernel
theorem dX7_rigOf_17 : decode cX7_rigOf 17 = .ok (.aload_n 3, 1) := by decide +kernel
theorem dX7_rigOf_18 : decode cX7_rigOf 18 = .ok (.getfield 43, 3) := by decide +kernel
theorem dX7_rigOf_21 : decode cX7_rigOf 21 = .ok (.goto 8, 3) := by decide +kernel
theorem dX7_rigOf_24 : decode cX7_rigOf 24 = .ok (.aload_n 3, 1) := by decide +kernel
theorem dX7_rigOf_25 : decode cX7_rigOf 25 = .ok (.iload_n 2, 1) := by decide +kernel
theorem dX7_rigOf_26 : decode cX7_rigOf 26 = .ok (.invokevirtual 270, 3) := by decide +kernel
theorem dX7_rigOf_29 : decode cX7_rigOf 29 = .ok (.areturn, 1) := by decide +kernel
theorem dX7_isCurveFrame_0 : decode cX7_isCurveFrame 0 = .ok (.iload_n 0, 1) := by decide +kernel
theorem dX7_isCurveFrame_1 : decode cX7_isCurveFrame 1 = .ok (.ifCond .lt 13, 3) := by decide +kernel
theorem dX7_isCurveFrame_4 : decode cX7_isCurveFrame 4 = .ok (.iload_n 0, 1) := by decide +kernel
theorem dX7_isCurveFrame_5 : decode cX7_isCurveFrame 5 = .ok (.bipush 100, 2) := by decide +kernel
theorem dX7_isCurveFrame_7 : decode cX7_isCurveFrame 7 = .ok (.if_icmp .ge 7, 3) := by decide +kernel
theorem dX7_isCurveFrame_10 : decode cX7_isCurveFrame 10 = .ok (.iconst 1, 1) := by decide +kernel
theorem dX7_isCurveFrame_11 : decode cX7_isCurveFrame 11 = .ok (.goto 4, 3) := by decide +kernel
theorem dX7_isCurveFrame_14 : decode cX7_isCurveFrame 14 = .ok (.iconst 0, 1) := by decide +kernel
theorem dX7_isCurveFrame_15 : decode cX7_isCurveFrame 15 = .ok (.ireturn, 1) := by decide +kernel
theorem dX7_canBeShown_0 : decode cX7_canBeShown 0 = .ok (.iload_n 0, 1) := by decide +kernel
theorem dX7_canBeShown_1 : decode cX7_canBeShown 1 = .ok (.ifCond .lt 13, 3) := by decide +kernel
theorem dX7_canBeShown_4 : decode cX7_canBeShown 4 = .ok (.iload_n 0, 1) := by decide +kernel
theorem dX7_canBeShown_5 : decode cX7_canBeShown 5 = .ok (.bipush 40, 2) := by decide +kernel
theorem dX7_canBeShown_7 : decode cX7_canBeShown 7 = .ok (.if_icmp .ge 7, 3) := by decide +kernel
theorem dX7_canBeShown_10 : decode cX7_canBeShown 10 = .ok (.iconst 1, 1) := by decide +kernel
theorem dX7_canBeShown_11 : decode cX7_canBeShown 11 = .ok (.goto 4, 3) := by decide +kernel
theorem dX7_canBeShown_14 : decode cX7_canBeShown 14 = .ok (.iconst 0, 1) := by decide +kernel
theorem dX7_canBeShown_15 : decode cX7_canBeShown 15 = .ok (.ireturn, 1) := by decide +kernel
theorem dX7_seenVersion_0 : decode cX7_seenVersion 0 = .ok (.aload_n 0, 1) := by decide +kernel
theorem dX7_seenVersion_1 : decode cX7_seenVersion 1 = .ok (.iload_n 3, 1) := by decide +kernel
theorem dX7_seenVersion_2 : decode cX7_seenVersion 2 = .ok (.invokevirtual 39, 3) := by decide +kernel
theorem dX7_seenVersion_5 : decode cX7_seenVersion 5 = .ok (.astore 4, 2) := by decide +kernel
theorem dX7_seenVersion_7 : decode cX7_seenVersion 7 = .ok (.aload_n 1, 1) := by decide +kernel
theorem dX7_seenVersion_8 : decode cX7_seenVersion 8 = .ok (.iload_n 3, 1) := by decide +kernel
theorem dX7_seenVersion_9 : decode cX7_seenVersion 9 = .ok (.invokevirtual 274, 3) := by decide +kernel
theorem dX7_seenVersion_12 : decode cX7_seenVersion 12 = .ok (.astore 5, 2) := by decide +kernel
theorem dX7_seenVersion_14 : decode cX7_seenVersion 14 = .ok (.aload 4, 2) := by decide +kernel
theorem dX7_seenVersion_16 : decode cX7_seenVersion 16 = .ok (.ifnull 20, 3) := by decide +kernel
theorem dX7_seenVersion_19 : decode cX7_seenVersion 19 = .ok (.aload 5, 2) := by decide +kernel
theorem dX7_seenVersion_21 : decode cX7_seenVersion 21 = .ok (.ifnull 15, 3) := by decide +kernel
theorem dX7_seenVersion_24 : decode cX7_seenVersion 24 = .ok (.aload 5, 2) := by decide +kernel
theorem dX7_seenVersion_26 : decode cX7_seenVersion 26 = .ok (.aload_n 2, 1) := by decide +kernel
theorem dX7_seenVersion_27 : decode cX7_seenVersion 27 = .ok (.getfield 234, 3) := by decide +kernel
theorem dX7_seenVersion_30 : decode cX7_seenVersion 30 = .ok (.invokevirtual 278, 3) := by decide +kernel
theorem dX7_seenVersion_33 : decode cX7_seenVersion 33 = .ok (.ifCond .ne 5, 3) := by decide +kernel
theorem dX7_seenVersion_36 : decode cX7_seenVersion 36 = .ok (.iconst (-1), 1) := by decide +kernel
theorem dX7_seenVersion_37 : decode cX7_seenVersion 37 = .ok (.ireturn, 1) := by decide +kernel
theorem dX7_seenVersion_38 : decode cX7_seenVersion 38 = .ok (.aload 5, 2) := by decide +kernel
theorem dX7_seenVersion_40 : decode cX7_seenVersion 40 = .ok (.getfield 283, 3) := by decide +kernel
theorem dX7_seenVersion_43 : decode cX7_seenVersion 43 = .ok (.iconst (-1), 1) := by decide +kernel
theorem dX7_seenVersion_44 : decode cX7_seenVersion 44 = .ok (.if_icmp .ne 13, 3) := by decide +kernel
theorem dX7_seenVersion_47 : decode cX7_seenVersion 47 = .ok (.aload 4, 2) := by decide +kernel
theorem dX7_seenVersion_49 : decode cX7_seenVersion 49 = .ok (.getfield 100, 3) := by decide +kernel
theorem dX7_seenVersion_52 : decode cX7_seenVersion 52 = .ok (.iconst 1, 1) := by decide +kernel
theorem dX7_seenVersion_53 : decode cX7_seenVersion 53 = .ok (.isub, 1) := by decide +kernel
theorem dX7_seenVersion_54 : decode cX7_seenVersion 54 = .ok (.goto 8, 3) := by decide +kernel
theorem dX7_seenVersion_57 : decode cX7_seenVersion 57 = .ok (.aload 5, 2) := by decide +kernel
theorem dX7_seenVersion_59 : decode cX7_seenVersion 59 = .ok (.getfield 283, 3) := by decide +kernel
theorem dX7_seenVersion_62 : decode cX7_seenVersion 62 = .ok (.ireturn, 1) := by decide +kernel
theorem dX7_seenRig_0 : decode cX7_seenRig 0 = .ok (.aload_n 0, 1) := by decide +kernel
theorem dX7_seenRig_1 : decode cX7_seenRig 1 = .ok (.iload_n 3, 1) := by decide +kernel
theorem dX7_seenRig_2 : decode cX7_seenRig 2 = .ok (.invokevirtual 39, 3) := by decide +kernel
theorem dX7_seenRig_5 : decode cX7_seenRig 5 = .ok (.astore 4, 2) := by decide +kernel
theorem dX7_seenRig_7 : decode cX7_seenRig 7 = .ok (.aload 4, 2) := by decide +kernel
theorem dX7_seenRig_9 : decode cX7_seenRig 9 = .ok (.ifnonnull 7, 3) := by decide +kernel
theorem dX7_seenRig_12 : decode cX7_seenRig 12 = .ok (.aconst_null, 1) := by decide +kernel
theorem dX7_seenRig_13 : decode cX7_seenRig 13 = .ok (.goto 15, 3) := by decide +kernel
theorem dX7_seenRig_16 : decode cX7_seenRig 16 = .ok (.aload 4, 2) := by decide +kernel
theorem dX7_seenRig_18 : decode cX7_seenRig 18 = .ok (.aload_n 0, 1) := by decide +kernel
theorem dX7_seenRig_19 : decode cX7_seenRig 19 = .ok (.aload_n 1, 1) := by decide +kernel
theorem dX7_seenRig_20 : decode cX7_seenRig 20 = .ok (.aload_n 2, 1) := by decide +kernel
theorem dX7_seenRig_21 : decode cX7_seenRig 21 = .ok (.iload_n 3, 1) := by decide +kernel
theorem dX7_seenRig_22 : decode cX7_seenRig 22 = .ok (.invokevirtual 286, 3) := by decide +kernel
theorem dX7_seenRig_25 : decode cX7_seenRig 25 = .ok (.invokevirtual 270, 3) := by decide +kernel
theorem dX7_seenRig_28 : decode cX7_seenRig 28 = .ok (.areturn, 1) := by decide +kernel
theorem dX7_bonesSeen_0 : decode cX7_bonesSeen 0 = .ok (.iconst 0, 1) := by decide +kernel
theorem dX7_bonesSeen_1 : decode cX7_bonesSeen 1 = .ok (.istore_n 3, 1) := by decide +kernel
theorem dX7_bonesSeen_2 : decode cX7_bonesSeen 2 = .ok (.iconst 0, 1) := by decide +kernel
theorem dX7_bonesSeen_3 : decode cX7_bonesSeen 3 = .ok (.istore 4, 2) := by decide +kernel
theorem dX7_bonesSeen_5 : decode cX7_bonesSeen 5 = .ok (.iload 4, 2) := by decide +kernel
theorem dX7_bonesSeen_7 : decode cX7_bonesSeen 7 = .ok (.aload_n 0, 1) := by decide +kernel
theorem dX7_bonesSeen_8 : decode cX7_bonesSeen 8 = .ok (.getfield 27, 3) := by decide +kernel
theorem dX7_bonesSeen_11 : decode cX7_bonesSeen 11 = .ok (.if_icmp .ge 32, 3) := by decide +kernel
theorem dX7_bonesSeen_14 : decode cX7_bonesSeen 14 = .ok (.aload_n 0, 1) := by decide +kernel
theorem dX7_bonesSeen_15 : decode cX7_bonesSeen 15 = .ok (.aload_n 1, 1) := by decide +kernel
theorem dX7_bonesSeen_16 : decode cX7_bonesSeen 16 = .ok (.aload_n 2, 1) := by decide +kernel
theorem dX7_bonesSeen_17 : decode cX7_bonesSeen 17 = .ok (.iload 4, 2) := by decide +kernel
theorem dX7_bonesSeen_19 : decode cX7_bonesSeen 19 = .ok (.invokevirtual 290, 3) := by decide +kernel
theorem dX7_bonesSeen_22 : decode cX7_bonesSeen 22 = .ok (.astore 5, 2) := by decide +kernel
theorem dX7_bonesSeen_24 : decode cX7_bonesSeen 24 = .ok (.aload 5, 2) := by decide +kernel
theorem dX7_bonesSeen_26 : decode cX7_bonesSeen 26 = .ok (.ifnull 11, 3) := by decide +kernel
theorem dX7_bonesSeen_29 : decode cX7_bonesSeen 29 = .ok (.iload_n 3, 1) := by decide +kernel
theorem dX7_bonesSeen_30 : decode cX7_bonesSeen 30 = .ok (.aload 5, 2) := by decide +kernel
theorem dX7_bonesSeen_32 : decode cX7_bonesSeen 32 = .ok (.getfield 58, 3) := by decide +kernel
theorem dX7_bonesSeen_35 : decode cX7_bonesSeen 35 = .ok (.iadd, 1) := by decide +kernel
theorem dX7_bonesSeen_36 : decode cX7_bonesSeen 36 = .ok (.istore_n 3, 1) := by decide +kernel
theorem dX7_bonesSeen_37 : decode cX7_bonesSeen 37 = .ok (.iinc 4 1, 3) := by decide +kernel
theorem dX7_bonesSeen_40 : decode cX7_bonesSeen 40 = .ok (.goto (-35), 3) := by decide +kernel
theorem dX7_bonesSeen_43 : decode cX7_bonesSeen 43 = .ok (.iload_n 3, 1) := by decide +kernel
theorem dX7_bonesSeen_44 : decode cX7_bonesSeen 44 = .ok (.ireturn, 1) := by decide +kernel
theorem dX7_keepVersions_0 : decode cX7_keepVersions 0 = .ok (.iconst 0, 1) := by decide +kernel
theorem dX7_keepVersions_1 : decode cX7_keepVersions 1 = .ok (.istore_n 3, 1) := by decide +kernel
theorem dX7_keepVersions_2 : decode cX7_keepVersions 2 = .ok (.iload_n 3, 1) := by decide +kernel
theorem dX7_keepVersions_3 : decode cX7_keepVersions 3 = .ok (.aload_n 0, 1) := by decide +kernel
theorem dX7_keepVersions_4 : decode cX7_keepVersions 4 = .ok (.getfield 27, 3) := by decide +kernel
theorem dX7_keepVersions_7 : decode cX7_keepVersions 7 = .ok (.if_icmp .ge 21, 3) := by decide +kernel
theorem dX7_keepVersions_10 : decode cX7_keepVersions 10 = .ok (.aload_n 2, 1) := by decide +kernel
theorem dX7_keepVersions_11 : decode cX7_keepVersions 11 = .ok (.iload_n 3, 1) := by decide +kernel
theorem dX7_keepVersions_12 : decode cX7_keepVersions 12 = .ok (.aload_n 0, 1) := by decide +kernel
theorem dX7_keepVersions_13 : decode cX7_keepVersions 13 = .ok (.aload_n 1, 1) := by decide +kernel
theorem dX7_keepVersions_14 : decode cX7_keepVersions 14 = .ok (.aload_n 2, 1) := by decide +kernel
theorem dX7_keepVersions_15 : decode cX7_keepVersions 15 = .ok (.iload_n 3, 1) := by decide +kernel
theorem dX7_keepVersions_16 : decode cX7_keepVersions 16 = .ok (.invokevirtual 286, 3) := by decide +kernel
theorem dX7_keepVersions_19 : decode cX7_keepVersions 19 = .ok (.invokevirtual 294, 3) := by decide +kernel
theorem dX7_keepVersions_22 : decode cX7_keepVersions 22 = .ok (.iinc 3 1, 3) := by decide +kernel
theorem dX7_keepVersions_25 : decode cX7_keepVersions 25 = .ok (.goto (-23), 3) := by decide +kernel
theorem dX7_keepVersions_28 : decode cX7_keepVersions 28 = .ok (.return_, 1) := by decide +kernel
theorem dX7_countRendering_0 : decode cX7_countRendering 0 = .ok (.aload_n 1, 1) := by decide +kernel
theorem dX7_countRendering_1 : decode cX7_countRendering 1 = .ok (.dup, 1) := by decide +kernel
theorem dX7_countRendering_2 : decode cX7_countRendering 2 = .ok (.getfield 239, 3) := by decide +kernel
theorem dX7_countRendering_5 : decode cX7_countRendering 5 = .ok (.iconst 1, 1) := by decide +kernel
theorem dX7_countRendering_6 : decode cX7_countRendering 6 = .ok (.iadd, 1) := by decide +kernel
theorem dX7_countRendering_7 : decode cX7_countRendering 7 = .ok (.putfield 239, 3) := by decide +kernel
theorem dX7_countRendering_10 : decode cX7_countRendering 10 = .ok (.aload_n 0, 1) := by decide +kernel
theorem dX7_countRendering_11 : decode cX7_countRendering 11 = .ok (.dup, 1) := by decide +kernel
theorem dX7_countRendering_12 : decode cX7_countRendering 12 = .ok (.getfield 205, 3) := by decide +kernel
theorem dX7_countRendering_15 : decode cX7_countRendering 15 = .ok (.iconst 1, 1) := by decide +kernel
theorem dX7_countRendering_16 : decode cX7_countRendering 16 = .ok (.iadd, 1) := by decide +kernel
theorem dX7_countRendering_17 : decode cX7_countRendering 17 = .ok (.putfield 205, 3) := by decide +kernel
theorem dX7_countRendering_20 : decode cX7_countRendering 20 = .ok (.return_, 1) := by decide +kernel
theorem dX7_isStale_0 : decode cX7_isStale 0 = .ok (.aload_n 2, 1) := by decide +kernel
theorem dX7_isStale_1 : decode cX7_isStale 1 = .ok (.getfield 239, 3) := by decide +kernel
theorem dX7_isStale_4 : decode cX7_isStale 4 = .ok (.ifCond .ne 5, 3) := by decide +kernel
theorem dX7_isStale_7 : decode cX7_isStale 7 = .ok (.iconst 1, 1) := by decide +kernel
theorem dX7_isStale_8 : decode cX7_isStale 8 = .ok (.ireturn, 1) := by decide +kernel
theorem dX7_isStale_9 : decode cX7_isStale 9 = .ok (.iconst 0, 1) := by decide +kernel
theorem dX7_isStale_10 : decode cX7_isStale 10 = .ok (.istore_n 3, 1) := by decide +kernel
theorem dX7_isStale_11 : decode cX7_isStale 11 = .ok (.iload_n 3, 1) := by decide +kernel
theorem dX7_isStale_12 : decode cX7_isStale 12 = .ok (.aload_n 0, 1) := by decide +kernel
theorem dX7_isStale_13 : decode cX7_isStale 13 = .ok (.getfield 27, 3) := by decide +kernel
theorem dX7_isStale_16 : decode cX7_isStale 16 = .ok (.if_icmp .ge 51, 3) := by decide +kernel
theorem dX7_isStale_19 : decode cX7_isStale 19 = .ok (.aload_n 0, 1) := by decide +kernel
theorem dX7_isStale_20 : decode cX7_isStale 20 = .ok (.iload_n 3, 1) := by decide +kernel
theorem dX7_isStale_21 : decode cX7_isStale 21 = .ok (.invokevirtual 39, 3) := by decide +kernel
theorem dX7_isStale_24 : decode cX7_isStale 24 = .ok (.astore 4, 2) := by decide +kernel
theorem dX7_isStale_26 : decode cX7_isStale 26 = .ok (.aload_n 0, 1) := by decide +kernel
theorem dX7_isStale_27 : decode cX7_isStale 27 = .ok (.aload_n 1, 1) := by decide +kernel
theorem dX7_isStale_28 : decode cX7_isStale 28 = .ok (.aload_n 2, 1) := by decide +kernel
theorem dX7_isStale_29 : decode cX7_isStale 29 = .ok (.iload_n 3, 1) := by decide +kernel
theorem dX7_isStale_30 : decode cX7_isStale 30 = .ok (.invokevirtual 286, 3) := by decide +kernel
theorem dX7_isStale_33 : decode cX7_isStale 33 = .ok (.istore 5, 2) := by decide +kernel
theorem dX7_isStale_35 : decode cX7_isStale 35 = .ok (.aload 4, 2) := by decide +kernel
theorem dX7_isStale_37 : decode cX7_isStale 37 = .ok (.ifnull 24, 3) := by decide +kernel
theorem dX7_isStale_40 : decode cX7_isStale 40 = .ok (.aload 4, 2) := by decide +kernel
theorem dX7_isStale_42 : decode cX7_isStale 42 = .ok (.aload_n 2, 1) := by decide +kernel
theorem dX7_isStale_43 : decode cX7_isStale 43 = .ok (.iload_n 3, 1) := by decide +kernel
theorem dX7_isStale_44 : decode cX7_isStale 44 = .ok (.invokevirtual 251, 3) := by decide +kernel
theorem dX7_isStale_47 : decode cX7_isStale 47 = .ok (.iload 5, 2) := by decide +kernel
theorem dX7_isStale_49 : decode cX7_isStale 49 = .ok (.aload_n 2, 1) := by decide +kernel
theorem dX7_isStale_50 : decode cX7_isStale 50 = .ok (.getfield 234, 3) := by decide +kernel
theorem dX7_isStale_53 : decode cX7_isStale 53 = .ok (.invokevirtual 297, 3) := by decide +kernel
theorem dX7_isStale_56 : decode cX7_isStale 56 = .ok (.ifCond .ne 5, 3) := by decide +kernel
theorem dX7_isStale_59 : decode cX7_isStale 59 = .ok (.iconst 1, 1) := by decide +kernel
theorem dX7_isStale_60 : decode cX7_isStale 60 = .ok (.ireturn, 1) := by decide +kernel
theorem dX7_isStale_61 : decode cX7_isStale 61 = .ok (.iinc 3 1, 3) := by decide +kernel
theorem dX7_isStale_64 : decode cX7_isStale 64 = .ok (.goto (-53), 3) := by decide +kernel
theorem dX7_isStale_67 : decode cX7_isStale 67 = .ok (.iconst 0, 1) := by decide +kernel
theorem dX7_isStale_68 : decode cX7_isStale 68 = .ok (.ireturn, 1) := by decide +kernel
theorem dX7_staleFrames_0 : decode cX7_staleFrames 0 = .ok (.iconst 0, 1) := by decide +kernel
theorem dX7_staleFrames_1 : decode cX7_staleFrames 1 = .ok (.istore_n 2, 1) := by decide +kernel
theorem dX7_staleFrames_2 : decode cX7_staleFrames 2 = .ok (.iconst 0, 1) := by decide +kernel
theorem dX7_staleFrames_3 : decode cX7_staleFrames 3 = .ok (.istore_n 3, 1) := by decide +kernel
theorem dX7_staleFrames_4 : decode cX7_staleFrames 4 = .ok (.iload_n 3, 1) := by decide +kernel
theorem dX7_staleFrames_5 : decode cX7_staleFrames 5 = .ok (.aload_n 1, 1) := by decide +kernel
theorem dX7_staleFrames_6 : decode cX7_staleFrames 6 = .ok (.getfield 162, 3) := by decide +kernel
theorem dX7_staleFrames_9 : decode cX7_staleFrames 9 = .ok (.if_icmp .ge 34, 3) := by decide +kernel
theorem dX7_staleFrames_12 : decode cX7_staleFrames 12 = .ok (.aload_n 1, 1) := by decide +kernel
theorem dX7_staleFrames_13 : decode cX7_staleFrames 13 = .ok (.iload_n 3, 1) := by decide +kernel
theorem dX7_staleFrames_14 : decode cX7_staleFrames 14 = .ok (.invokevirtual 208, 3) := by decide +kernel
theorem dX7_staleFrames_17 : decode cX7_staleFrames 17 = .ok (.astore 4, 2) := by decide +kernel
theorem dX7_staleFrames_19 : decode cX7_staleFrames 19 = .ok (.aload 4, 2) := by decide +kernel
theorem dX7_staleFrames_21 : decode cX7_staleFrames 21 = .ok (.ifnull 16, 3) := by decide +kernel
theorem dX7_staleFrames_24 : decode cX7_staleFrames 24 = .ok (.aload_n 0, 1) := by decide +kernel
theorem dX7_staleFrames_25 : decode cX7_staleFrames 25 = .ok (.aload_n 1, 1) := by decide +kernel
theorem dX7_staleFrames_26 : decode cX7_staleFrames 26 = .ok (.aload 4, 2) := by decide +kernel
theorem dX7_staleFrames_28 : decode cX7_staleFrames 28 = .ok (.invokevirtual 212, 3) := by decide +kernel
theorem dX7_staleFrames_31 : decode cX7_staleFrames 31 = .ok (.ifCond .eq 6, 3) := by decide +kernel
theorem dX7_staleFrames_34 : decode cX7_staleFrames 34 = .ok (.iinc 2 1, 3) := by decide +kernel
theorem dX7_staleFrames_37 : decode cX7_staleFrames 37 = .ok (.iinc 3 1, 3) := by decide +kernel
theorem dX7_staleFrames_40 : decode cX7_staleFrames 40 = .ok (.goto (-36), 3) := by decide +kernel
theorem dX7_staleFrames_43 : decode cX7_staleFrames 43 = .ok (.iload_n 2, 1) := by decide +kernel
theorem dX7_staleFrames_44 : decode cX7_staleFrames 44 = .ok (.ireturn, 1) := by decide +kernel
theorem dX7_moveNotes_0 : decode cX7_moveNotes 0 = .ok (.iconst 0, 1) := by decide +kernel
theorem dX7_moveNotes_1 : decode cX7_moveNotes 1 = .ok (.istore 5, 2) := by decide +kernel
theorem dX7_moveNotes_3 : decode cX7_moveNotes 3 = .ok (.iload 5, 2) := by decide +kernel
theorem dX7_moveNotes_5 : decode cX7_moveNotes 5 = .ok (.aload_n 0, 1) := by decide +kernel
theorem dX7_moveNotes_6 : decode cX7_moveNotes 6 = .ok (.getfield 172, 3) := by decide +kernel
theorem dX7_moveNotes_9 : decode cX7_moveNotes 9 = .ok (.if_icmp .ge 40, 3) := by decide +kernel
theorem dX7_moveNotes_12 : decode cX7_moveNotes 12 = .ok (.aload_n 0, 1) := by decide +kernel
theorem dX7_moveNotes_13 : decode cX7_moveNotes 13 = .ok (.iload 5, 2) := by decide +kernel
theorem dX7_moveNotes_15 : decode cX7_moveNotes 15 = .ok (.invokevirtual 179, 3) := by decide +kernel
theorem dX7_moveNotes_18 : decode cX7_moveNotes 18 = .ok (.astore 6, 2) := by decide +kernel
theorem dX7_moveNotes_20 : decode cX7_moveNotes 20 = .ok (.aload 6, 2) := by decide +kernel
theorem dX7_moveNotes_22 : decode cX7_moveNotes 22 = .ok (.ifnull 21, 3) := by decide +kernel
theorem dX7_moveNotes_25 : decode cX7_moveNotes 25 = .ok (.aload 6, 2) := by decide +kernel
theorem dX7_moveNotes_27 : decode cX7_moveNotes 27 = .ok (.getfield 191, 3) := by decide +kernel
theorem dX7_moveNotes_30 : decode cX7_moveNotes 30 = .ok (.iload_n 1, 1) := by decide +kernel
theorem dX7_moveNotes_31 : decode cX7_moveNotes 31 = .ok (.if_icmp .ne 12, 3) := by decide +kernel
theorem dX7_moveNotes_34 : decode cX7_moveNotes 34 = .ok (.aload 6, 2) := by decide +kernel
theorem dX7_moveNotes_36 : decode cX7_moveNotes 36 = .ok (.iload_n 2, 1) := by decide +kernel
theorem dX7_moveNotes_37 : decode cX7_moveNotes 37 = .ok (.iload_n 3, 1) := by decide +kernel
theorem dX7_moveNotes_38 : decode cX7_moveNotes 38 = .ok (.iload 4, 2) := by decide +kernel
theorem dX7_moveNotes_40 : decode cX7_moveNotes 40 = .ok (.invokevirtual 301, 3) := by decide +kernel
theorem dX7_moveNotes_43 : decode cX7_moveNotes 43 = .ok (.iinc 5 1, 3) := by decide +kernel
theorem dX7_moveNotes_46 : decode cX7_moveNotes 46 = .ok (.goto (-43), 3) := by decide +kernel
theorem dX7_moveNotes_49 : decode cX7_moveNotes 49 = .ok (.return_, 1) := by decide +kernel
theorem dX7_openNotesOfScene_0 : decode cX7_openNotesOfScene 0 = .ok (.iconst 0, 1) := by decide +kernel
theorem dX7_openNotesOfScene_1 : decode cX7_openNotesOfScene 1 = .ok (.istore_n 2, 1) := by decide +kernel
theorem dX7_openNotesOfScene_2 : decode cX7_openNotesOfScene 2 = .ok (.iconst 0, 1) := by decide +kernel
theorem dX7_openNotesOfScene_3 : decode cX7_openNotesOfScene 3 = .ok (.istore_n 3, 1) := by decide +kernel
theorem dX7_openNotesOfScene_4 : decode cX7_openNotesOfScene 4 = .ok (.iload_n 3, 1) := by decide +kernel
theorem dX7_openNotesOfScene_5 : decode cX7_openNotesOfScene 5 = .ok (.aload_n 0, 1) := by decide +kernel
theorem dX7_openNotesOfScene_6 : decode cX7_openNotesOfScene 6 = .ok (.getfield 172, 3) := by decide +kernel
theorem dX7_openNotesOfScene_9 : decode cX7_openNotesOfScene 9 = .ok (.if_icmp .ge 41, 3) := by decide +kernel
theorem dX7_openNotesOfScene_12 : decode cX7_openNotesOfScene 12 = .ok (.aload_n 0, 1) := by decide +kernel
theorem dX7_openNotesOfScene_13 : decode cX7_openNotesOfScene 13 = .ok (.iload_n 3, 1) := by decide +kernel
theorem dX7_openNotesOfScene_14 : decode cX7_openNotesOfScene 14 = .ok (.invokevirtual 179, 3) := by decide +kernel
theorem dX7_openNotesOfScene_17 : decode cX7_openNotesOfScene 17 = .ok (.astore 4, 2) := by decide +kernel
theorem dX7_openNotesOfScene_19 : decode cX7_openNotesOfScene 19 = .ok (.aload 4, 2) := by decide +kernel
theorem dX7_openNotesOfScene_21 : decode cX7_openNotesOfScene 21 = .ok (.ifnull 23, 3) := by decide +kernel
theorem dX7_openNotesOfScene_24 : decode cX7_openNotesOfScene 24 = .ok (.aload 4, 2) := by decide +kernel
theorem dX7_openNotesOfScene_26 : decode cX7_openNotesOfScene 26 = .ok (.getfield 185, 3) := by decide +kernel
theorem dX7_openNotesOfScene_29 : decode cX7_openNotesOfScene 29 = .ok (.ifCond .ne 15, 3) := by decide +kernel
theorem dX7_openNotesOfScene_32 : decode cX7_openNotesOfScene 32 = .ok (.aload 4, 2) := by decide +kernel
theorem dX7_openNotesOfScene_34 : decode cX7_openNotesOfScene 34 = .ok (.getfield 191, 3) := by decide +kernel
theorem dX7_openNotesOfScene_37 : decode cX7_openNotesOfScene 37 = .ok (.iload_n 1, 1) := by decide +kernel
theorem dX7_openNotesOfScene_38 : decode cX7_openNotesOfScene 38 = .ok (.if_icmp .ne 6, 3) := by decide +kernel
theorem dX7_openNotesOfScene_41 : decode cX7_openNotesOfScene 41 = .ok (.iinc 2 1, 3) := by decide +kernel
theorem dX7_openNotesOfScene_44 : decode cX7_openNotesOfScene 44 = .ok (.iinc 3 1, 3) := by decide +kernel
theorem dX7_openNotesOfScene_47 : decode cX7_openNotesOfScene 47 = .ok (.goto (-43), 3) := by decide +kernel
theorem dX7_openNotesOfScene_50 : decode cX7_openNotesOfScene 50 = .ok (.iload_n 2, 1) := by decide +kernel
theorem dX7_openNotesOfScene_51 : decode cX7_openNotesOfScene 51 = .ok (.ireturn, 1) := by decide +kernel
theorem dX7_openNotesOfFrame_0 : decode cX7_openNotesOfFrame 0 = .ok (.iconst 0, 1) := by decide +kernel
theorem dX7_openNotesOfFrame_1 : decode cX7_openNotesOfFrame 1 = .ok (.istore_n 3, 1) := by decide +kernel
theorem dX7_openNotesOfFrame_2 : decode cX7_openNotesOfFrame 2 = .ok (.iconst 0, 1) := by decide +kernel
theorem dX7_openNotesOfFrame_3 : decode cX7_openNotesOfFrame 3 = .ok (.istore 4, 2) := by decide +kernel
theorem dX7_openNotesOfFrame_5 : decode cX7_openNotesOfFrame 5 = .ok (.iload 4, 2) := by decide +kernel
theorem dX7_openNotesOfFrame_7 : decode cX7_openNotesOfFrame 7 = .ok (.aload_n 0, 1) := by decide +kernel
theorem dX7_openNotesOfFrame_8 : decode cX7_openNotesOfFrame 8 = .ok (.getfield 172, 3) := by decide +kernel
theorem dX7_openNotesOfFrame_11 : decode cX7_openNotesOfFrame 11 = .ok (.if_icmp .ge 51, 3) := by decide +kernel
theorem dX7_openNotesOfFrame_14 : decode cX7_openNotesOfFrame 14 = .ok (.aload_n 0, 1) := by decide +kernel
theorem dX7_openNotesOfFrame_15 : decode cX7_openNotesOfFrame 15 = .ok (.iload 4, 2) := by decide +kernel
theorem dX7_openNotesOfFrame_17 : decode cX7_openNotesOfFrame 17 = .ok (.invokevirtual 179, 3) := by decide +kernel
theorem dX7_openNotesOfFrame_20 : decode cX7_openNotesOfFrame 20 = .ok (.astore 5, 2) := by decide +kernel
theorem dX7_openNotesOfFrame_22 : decode cX7_openNotesOfFrame 22 = .ok (.aload 5, 2) := by decide +kernel
theorem dX7_openNotesOfFrame_24 : decode cX7_openNotesOfFrame 24 = .ok (.ifnull 32, 3) := by decide +kernel
theorem dX7_openNotesOfFrame_27 : decode cX7_openNotesOfFrame 27 = .ok (.aload 5, 2) := by decide +kernel
theorem dX7_openNotesOfFrame_29 : decode cX7_openNotesOfFrame 29 = .ok (.getfield 185, 3) := by decide +kernel
theorem dX7_openNotesOfFrame_32 : decode cX7_openNotesOfFrame 32 = .ok (.ifCond .ne 24, 3) := by decide +kernel
theorem dX7_openNotesOfFrame_35 : decode cX7_openNotesOfFrame 35 = .ok (.aload 5, 2) := by decide +kernel
theorem dX7_openNotesOfFrame_37 : decode cX7_openNotesOfFrame 37 = .ok (.getfield 191, 3) := by decide +kernel
theorem dX7_openNotesOfFrame_40 : decode cX7_openNotesOfFrame 40 = .ok (.iload_n 1, 1) := by decide +kernel
theorem dX7_openNotesOfFrame_41 : decode cX7_openNotesOfFrame 41 = .ok (.if_icmp .ne 15, 3) := by decide +kernel
theorem dX7_openNotesOfFrame_44 : decode cX7_openNotesOfFrame 44 = .ok (.aload 5, 2) := by decide +kernel
theorem dX7_openNotesOfFrame_46 : decode cX7_openNotesOfFrame 46 = .ok (.getfield 197, 3) := by decide +kernel
theorem dX7_openNotesOfFrame_49 : decode cX7_openNotesOfFrame 49 = .ok (.iload_n 2, 1) := by decide +kernel
theorem dX7_openNotesOfFrame_50 : decode cX7_openNotesOfFrame 50 = .ok (.if_icmp .ne 6, 3) := by decide +kernel
theorem dX7_openNotesOfFrame_53 : decode cX7_openNotesOfFrame 53 = .ok (.iinc 3 1, 3) := by decide +kernel
theorem dX7_openNotesOfFrame_56 : decode cX7_openNotesOfFrame 56 = .ok (.iinc 4 1, 3) := by decide +kernel
theorem dX7_openNotesOfFrame_59 : decode cX7_openNotesOfFrame 59 = .ok (.goto (-54), 3) := by decide +kernel
theorem dX7_openNotesOfFrame_62 : decode cX7_openNotesOfFrame 62 = .ok (.iload_n 3, 1) := by decide +kernel
theorem dX7_openNotesOfFrame_63 : decode cX7_openNotesOfFrame 63 = .ok (.ireturn, 1) := by decide +kernel
theorem dX7_scenesThatCast_0 : decode cX7_scenesThatCast 0 = .ok (.iconst 0, 1) := by decide +kernel
theorem dX7_scenesThatCast_1 : decode cX7_scenesThatCast 1 = .ok (.istore_n 2, 1) := by decide +kernel
theorem dX7_scenesThatCast_2 : decode cX7_scenesThatCast 2 = .ok (.iconst 0, 1) := by decide +kernel
theorem dX7_scenesThatCast_3 : decode cX7_scenesThatCast 3 = .ok (.istore_n 3, 1) := by decide +kernel
theorem dX7_scenesThatCast_4 : decode cX7_scenesThatCast 4 = .ok (.iload_n 3, 1) := by decide +kernel
theorem dX7_scenesThatCast_5 : decode cX7_scenesThatCast 5 = .ok (.aload_n 0, 1) := by decide +kernel
theorem dX7_scenesThatCast_6 : decode cX7_scenesThatCast 6 = .ok (.getfield 129, 3) := by decide +kernel
theorem dX7_scenesThatCast_9 : decode cX7_scenesThatCast 9 = .ok (.if_icmp .ge 33, 3) := by decide +kernel
theorem dX7_scenesThatCast_12 : decode cX7_scenesThatCast 12 = .ok (.aload_n 0, 1) := by decide +kernel
theorem dX7_scenesThatCast_13 : decode cX7_scenesThatCast 13 = .ok (.iload_n 3, 1) := by decide +kernel
theorem dX7_scenesThatCast_14 : decode cX7_scenesThatCast 14 = .ok (.invokevirtual 137, 3) := by decide +kernel
theorem dX7_scenesThatCast_17 : decode cX7_scenesThatCast 17 = .ok (.astore 4, 2) := by decide +kernel
theorem dX7_scenesThatCast_19 : decode cX7_scenesThatCast 19 = .ok (.aload 4, 2) := by decide +kernel
theorem dX7_scenesThatCast_21 : decode cX7_scenesThatCast 21 = .ok (.ifnull 15, 3) := by decide +kernel
theorem dX7_scenesThatCast_24 : decode cX7_scenesThatCast 24 = .ok (.aload 4, 2) := by decide +kernel
theorem dX7_scenesThatCast_26 : decode cX7_scenesThatCast 26 = .ok (.iload_n 1, 1) := by decide +kernel
theorem dX7_scenesThatCast_27 : decode cX7_scenesThatCast 27 = .ok (.invokevirtual 274, 3) := by decide +kernel
theorem dX7_scenesThatCast_30 : decode cX7_scenesThatCast 30 = .ok (.ifnull 6, 3) := by decide +kernel
theorem dX7_scenesThatCast_33 : decode cX7_scenesThatCast 33 = .ok (.iinc 2 1, 3) := by decide +kernel
theorem dX7_scenesThatCast_36 : decode cX7_scenesThatCast 36 = .ok (.iinc 3 1, 3) := by decide +kernel
theorem dX7_scenesThatCast_39 : decode cX7_scenesThatCast 39 = .ok (.goto (-35), 3) := by decide +kernel
theorem dX7_scenesThatCast_42 : decode cX7_scenesThatCast 42 = .ok (.iload_n 2, 1) := by decide +kernel
theorem dX7_scenesThatCast_43 : decode cX7_scenesThatCast 43 = .ok (.ireturn, 1) := by decide +kernel
theorem dX7_allVersions_0 : decode cX7_allVersions 0 = .ok (.iconst 0, 1) := by decide +kernel
theorem dX7_allVersions_1 : decode cX7_allVersions 1 = .ok (.istore_n 1, 1) := by decide +kernel
theorem dX7_allVersions_2 : decode cX7_allVersions 2 = .ok (.iconst 0, 1) := by decide +kernel
theorem dX7_allVersions_3 : decode cX7_allVersions 3 = .ok (.istore_n 2, 1) := by decide +kernel
theorem dX7_allVersions_4 : decode cX7_allVersions 4 = .ok (.iload_n 2, 1) := by decide +kernel
theorem dX7_allVersions_5 : decode cX7_allVersions 5 = .ok (.aload_n 0, 1) := by decide +kernel
theorem dX7_allVersions_6 : decode cX7_allVersions 6 = .ok (.getfield 27, 3) := by decide +kernel
theorem dX7_allVersions_9 : decode cX7_allVersions 9 = .ok (.if_icmp .ge 26, 3) := by decide +kernel
theorem dX7_allVersions_12 : decode cX7_allVersions 12 = .ok (.aload_n 0, 1) := by decide +kernel
theorem dX7_allVersions_13 : decode cX7_allVersions 13 = .ok (.iload_n 2, 1) := by decide +kernel
theorem dX7_allVersions_14 : decode cX7_allVersions 14 = .ok (.invokevirtual 39, 3) := by decide +kernel
theorem dX7_allVersions_17 : decode cX7_allVersions 17 = .ok (.astore_n 3, 1) := by decide +kernel
theorem dX7_allVersions_18 : decode cX7_allVersions 18 = .ok (.aload_n 3, 1) := by decide +kernel
theorem dX7_allVersions_19 : decode cX7_allVersions 19 = .ok (.ifnull 10, 3) := by decide +kernel
theorem dX7_allVersions_22 : decode cX7_allVersions 22 = .ok (.iload_n 1, 1) := by decide +kernel
theorem dX7_allVersions_23 : decode cX7_allVersions 23 = .ok (.aload_n 3, 1) := by decide +kernel
theorem dX7_allVersions_24 : decode cX7_allVersions 24 = .ok (.getfield 100, 3) := by decide +kernel
theorem dX7_allVersions_27 : decode cX7_allVersions 27 = .ok (.iadd, 1) := by decide +kernel
theorem dX7_allVersions_28 : decode cX7_allVersions 28 = .ok (.istore_n 1, 1) := by decide +kernel
theorem dX7_allVersions_29 : decode cX7_allVersions 29 = .ok (.iinc 2 1, 3) := by decide +kernel
theorem dX7_allVersions_32 : decode cX7_allVersions 32 = .ok (.goto (-28), 3) := by decide +kernel
theorem dX7_allVersions_35 : decode cX7_allVersions 35 = .ok (.iload_n 1, 1) := by decide +kernel
theorem dX7_allVersions_36 : decode cX7_allVersions 36 = .ok (.ireturn, 1) := by decide +kernel
theorem dX7_allFrames_0 : decode cX7_allFrames 0 = .ok (.iconst 0, 1) := by decide +kernel
theorem dX7_allFrames_1 : decode cX7_allFrames 1 = .ok (.istore_n 1, 1) := by decide +kernel
theorem dX7_allFrames_2 : decode cX7_allFrames 2 = .ok (.iconst 0, 1) := by decide +kernel
theorem dX7_allFrames_3 : decode cX7_allFrames 3 = .ok (.istore_n 2, 1) := by decide +kernel
theorem dX7_allFrames_4 : decode cX7_allFrames 4 = .ok (.iload_n 2, 1) := by decide +kernel
theorem dX7_allFrames_5 : decode cX7_allFrames 5 = .ok (.aload_n 0, 1) := by decide +kernel
theorem dX7_allFrames_6 : decode cX7_allFrames 6 = .ok (.getfield 129, 3) := by decide +kernel
theorem dX7_allFrames_9 : decode cX7_allFrames 9 = .ok (.if_icmp .ge 26, 3) := by decide +kernel
theorem dX7_allFrames_12 : decode cX7_allFrames 12 = .ok (.aload_n 0, 1) := by decide +kernel
theorem dX7_allFrames_13 : decode cX7_allFrames 13 = .ok (.iload_n 2, 1) := by decide +kernel
theorem dX7_allFrames_14 : decode cX7_allFrames 14 = .ok (.invokevirtual 137, 3) := by decide +kernel
theorem dX7_allFrames_17 : decode cX7_allFrames 17 = .ok (.astore_n 3, 1) := by decide +kernel
theorem dX7_allFrames_18 : decode cX7_allFrames 18 = .ok (.aload_n 3, 1) := by decide +kernel
theorem dX7_allFrames_19 : decode cX7_allFrames 19 = .ok (.ifnull 10, 3) := by decide +kernel
theorem dX7_allFrames_22 : decode cX7_allFrames 22 = .ok (.iload_n 1, 1) := by decide +kernel
theorem dX7_allFrames_23 : decode cX7_allFrames 23 = .ok (.aload_n 3, 1) := by decide +kernel
theorem dX7_allFrames_24 : decode cX7_allFrames 24 = .ok (.getfield 162, 3) := by decide +kernel
theorem dX7_allFrames_27 : decode cX7_allFrames 27 = .ok (.iadd, 1) := by decide +kernel
theorem dX7_allFrames_28 : decode cX7_allFrames 28 = .ok (.istore_n 1, 1) := by decide +kernel
theorem dX7_allFrames_29 : decode cX7_allFrames 29 = .ok (.iinc 2 1, 3) := by decide +kernel
theorem dX7_allFrames_32 : decode cX7_allFrames 32 = .ok (.goto (-28), 3) := by decide +kernel
theorem dX7_allFrames_35 : decode cX7_allFrames 35 = .ok (.iload_n 1, 1) := by decide +kernel
theorem dX7_allFrames_36 : decode cX7_allFrames 36 = .ok (.ireturn, 1) := by decide +kernel
theorem dX7_allStaleFrames_0 : decode cX7_allStaleFrames 0 = .ok (.iconst 0, 1) := by decide +kernel
theorem dX7_allStaleFrames_1 : decode cX7_allStaleFrames 1 = .ok (.istore_n 1, 1) := by decide +kernel
theorem dX7_allStaleFrames_2 : decode cX7_allStaleFrames 2 = .ok (.iconst 0, 1) := by decide +kernel
theorem dX7_allStaleFrames_3 : decode cX7_allStaleFrames 3 = .ok (.istore_n 2, 1) := by decide +kernel
theorem dX7_allStaleFrames_4 : decode cX7_allStaleFrames 4 = .ok (.iload_n 2, 1) := by decide +kernel
theorem dX7_allStaleFrames_5 : decode cX7_allStaleFrames 5 = .ok (.aload_n 0, 1) := by decide +kernel
theorem dX7_allStaleFrames_6 : decode cX7_allStaleFrames 6 = .ok (.getfield 129, 3) := by decide +kernel
theorem dX7_allStaleFrames_9 : decode cX7_allStaleFrames 9 = .ok (.if_icmp .ge 27, 3) := by decide +kernel
theorem dX7_allStaleFrames_12 : decode cX7_allStaleFrames 12 = .ok (.aload_n 0, 1) := by decide +kernel
theorem dX7_allStaleFrames_13 : decode cX7_allStaleFrames 13 = .ok (.iload_n 2, 1) := by decide +kernel
theorem dX7_allStaleFrames_14 : decode cX7_allStaleFrames 14 = .ok (.invokevirtual 137, 3) := by decide +kernel
theorem dX7_allStaleFrames_17 : decode cX7_allStaleFrames 17 = .ok (.astore_n 3, 1) := by decide +kernel
theorem dX7_allStaleFrames_18 : decode cX7_allStaleFrames 18 = .ok (.aload_n 3, 1) := by decide +kernel
theorem dX7_allStaleFrames_19 : decode cX7_allStaleFrames 19 = .ok (.ifnull 11, 3) := by decide +kernel
theorem dX7_allStaleFrames_22 : decode cX7_allStaleFrames 22 = .ok (.iload_n 1, 1) := by decide +kernel
theorem dX7_allStaleFrames_23 : decode cX7_allStaleFrames 23 = .ok (.aload_n 0, 1) := by decide +kernel
theorem dX7_allStaleFrames_24 : decode cX7_allStaleFrames 24 = .ok (.aload_n 3, 1) := by decide +kernel
theorem dX7_allStaleFrames_25 : decode cX7_allStaleFrames 25 = .ok (.invokevirtual 224, 3) := by decide +kernel
theorem dX7_allStaleFrames_28 : decode cX7_allStaleFrames 28 = .ok (.iadd, 1) := by decide +kernel
theorem dX7_allStaleFrames_29 : decode cX7_allStaleFrames 29 = .ok (.istore_n 1, 1) := by decide +kernel
theorem dX7_allStaleFrames_30 : decode cX7_allStaleFrames 30 = .ok (.iinc 2 1, 3) := by decide +kernel
theorem dX7_allStaleFrames_33 : decode cX7_allStaleFrames 33 = .ok (.goto (-29), 3) := by decide +kernel
theorem dX7_allStaleFrames_36 : decode cX7_allStaleFrames 36 = .ok (.iload_n 1, 1) := by decide +kernel
theorem dX7_allStaleFrames_37 : decode cX7_allStaleFrames 37 = .ok (.ireturn, 1) := by decide +kernel
theorem dX7_allOpenNotes_0 : decode cX7_allOpenNotes 0 = .ok (.iconst 0, 1) := by decide +kernel
theorem dX7_allOpenNotes_1 : decode cX7_allOpenNotes 1 = .ok (.istore_n 1, 1) := by decide +kernel
theorem dX7_allOpenNotes_2 : decode cX7_allOpenNotes 2 = .ok (.iconst 0, 1) := by decide +kernel
theorem dX7_allOpenNotes_3 : decode cX7_allOpenNotes 3 = .ok (.istore_n 2, 1) := by decide +kernel
theorem dX7_allOpenNotes_4 : decode cX7_allOpenNotes 4 = .ok (.iload_n 2, 1) := by decide +kernel
theorem dX7_allOpenNotes_5 : decode cX7_allOpenNotes 5 = .ok (.aload_n 0, 1) := by decide +kernel
theorem dX7_allOpenNotes_6 : decode cX7_allOpenNotes 6 = .ok (.getfield 172, 3) := by decide +kernel
theorem dX7_allOpenNotes_9 : decode cX7_allOpenNotes 9 = .ok (.if_icmp .ge 29, 3) := by decide +kernel
theorem dX7_allOpenNotes_12 : decode cX7_allOpenNotes 12 = .ok (.aload_n 0, 1) := by decide +kernel
theorem dX7_allOpenNotes_13 : decode cX7_allOpenNotes 13 = .ok (.iload_n 2, 1) := by decide +kernel
theorem dX7_allOpenNotes_14 : decode cX7_allOpenNotes 14 = .ok (.invokevirtual 179, 3) := by decide +kernel
theorem dX7_allOpenNotes_17 : decode cX7_allOpenNotes 17 = .ok (.astore_n 3, 1) := by decide +kernel
theorem dX7_allOpenNotes_18 : decode cX7_allOpenNotes 18 = .ok (.aload_n 3, 1) := by decide +kernel
theorem dX7_allOpenNotes_19 : decode cX7_allOpenNotes 19 = .ok (.ifnull 13, 3) := by decide +kernel
theorem dX7_allOpenNotes_22 : decode cX7_allOpenNotes 22 = .ok (.aload_n 3, 1) := by decide +kernel
theorem dX7_allOpenNotes_23 : decode cX7_allOpenNotes 23 = .ok (.getfield 185, 3) := by decide +kernel
theorem dX7_allOpenNotes_26 : decode cX7_allOpenNotes 26 = .ok (.ifCond .ne 6, 3) := by decide +kernel
theorem dX7_allOpenNotes_29 : decode cX7_allOpenNotes 29 = .ok (.iinc 1 1, 3) := by decide +kernel
theorem dX7_allOpenNotes_32 : decode cX7_allOpenNotes 32 = .ok (.iinc 2 1, 3) := by decide +kernel
theorem dX7_allOpenNotes_35 : decode cX7_allOpenNotes 35 = .ok (.goto (-31), 3) := by decide +kernel
theorem dX7_allOpenNotes_38 : decode cX7_allOpenNotes 38 = .ok (.iload_n 1, 1) := by decide +kernel
theorem dX7_allOpenNotes_39 : decode cX7_allOpenNotes 39 = .ok (.ireturn, 1) := by decide +kernel
theorem dJ9_floorDiv_7cf53_0 : decode cJ9_floorDiv_7cf53 0 = .ok (.iload_n 0, 1) := by decide +kernel
theorem dJ9_floorDiv_7cf53_1 : decode cJ9_floorDiv_7cf53 1 = .ok (.iload_n 1, 1) := by decide +kernel
theorem dJ9_floorDiv_7cf53_2 : decode cJ9_floorDiv_7cf53 2 = .ok (.idiv, 1) := by decide +kernel
theorem dJ9_floorDiv_7cf53_3 : decode cJ9_floorDiv_7cf53 3 = .ok (.istore_n 2, 1) := by decide +kernel
theorem dJ9_floorDiv_7cf53_4 : decode cJ9_floorDiv_7cf53 4 = .ok (.iload_n 0, 1) := by decide +kernel
theorem dJ9_floorDiv_7cf53_5 : decode cJ9_floorDiv_7cf53 5 = .ok (.iload_n 1, 1) := by decide +kernel
theorem dJ9_floorDiv_7cf53_6 : decode cJ9_floorDiv_7cf53 6 = .ok (.ixor, 1) := by decide +kernel
theorem dJ9_floorDiv_7cf53_7 : decode cJ9_floorDiv_7cf53 7 = .ok (.ifCond .ge 14, 3) := by decide +kernel
theorem dJ9_floorDiv_7cf53_10 : decode cJ9_floorDiv_7cf53 10 = .ok (.iload_n 2, 1) := by decide +kernel
theorem dJ9_floorDiv_7cf53_11 : decode cJ9_floorDiv_7cf53 11 = .ok (.iload_n 1, 1) := by decide +kernel
theorem dJ9_floorDiv_7cf53_12 : decode cJ9_floorDiv_7cf53 12 = .ok (.imul, 1) := by decide +kernel
theorem dJ9_floorDiv_7cf53_13 : decode cJ9_floorDiv_7cf53 13 = .ok (.iload_n 0, 1) := by decide +kernel
theorem dJ9_floorDiv_7cf53_14 : decode cJ9_floorDiv_7cf53 14 = .ok (.if_icmp .eq 7, 3) := by decide +kernel
theorem dJ9_floorDiv_7cf53_17 : decode cJ9_floorDiv_7cf53 17 = .ok (.iload_n 2, 1) := by decide +kernel
theorem dJ9_floorDiv_7cf53_18 : decode cJ9_floorDiv_7cf53 18 = .ok (.iconst 1, 1) := by decide +kernel
theorem dJ9_floorDiv_7cf53_19 : decode cJ9_floorDiv_7cf53 19 = .ok (.isub, 1) := by decide +kernel
theorem dJ9_floorDiv_7cf53_20 : decode cJ9_floorDiv_7cf53 20 = .ok (.ireturn, 1) := by decide +kernel
theorem dJ9_floorDiv_7cf53_21 : decode cJ9_floorDiv_7cf53 21 = .ok (.iload_n 2, 1) := by decide +kernel
theorem dJ9_floorDiv_7cf53_22 : decode cJ9_floorDiv_7cf53 22 = .ok (.ireturn, 1) := by decide +kernel
theorem dL_call_0 : decode cL_call 0 = .ok (.iload_n 1, 1) := by decide +kernel
theorem dL_call_1 : decode cL_call 1 = .ok (.tableswitch 125 0 7 #[47, 54, 67, 84, 90, 103, 112, 119], 47) := by decide +kernel
theorem dL_call_48 : decode cL_call 48 = .ok (.aload_n 0, 1) := by decide +kernel
theorem dL_call_49 : decode cL_call 49 = .ok (.iload_n 2, 1) := by decide +kernel
theorem dL_call_50 : decode cL_call 50 = .ok (.iload_n 3, 1) := by decide +kernel
theorem dL_call_51 : decode cL_call 51 = .ok (.invokevirtual 7, 3) := by decide +kernel
theorem dL_call_54 : decode cL_call 54 = .ok (.ireturn, 1) := by decide +kernel
theorem dL_call_55 : decode cL_call 55 = .ok (.aload_n 0, 1) := by decide +kernel
theorem dL_call_56 : decode cL_call 56 = .ok (.iload_n 2, 1) := by decide +kernel
theorem dL_call_57 : decode cL_call 57 = .ok (.iload_n 3, 1) := by decide +kernel
theorem dL_call_58 : decode cL_call 58 = .ok (.iload 4, 2) := by decide +kernel
theorem dL_call_60 : decode cL_call 60 = .ok (.iload 5, 2) := by decide +kernel
theorem dL_call_62 : decode cL_call 62 = .ok (.iload 6, 2) := by decide +kernel
theorem dL_call_64 : decode cL_call 64 = .ok (.invokevirtual 13, 3) := by decide +kernel
theorem dL_call_67 : decode cL_call 67 = .ok (.ireturn, 1) := by decide +kernel
theorem dL_call_68 : decode cL_call 68 = .ok (.aload_n 0, 1) := by decide +kernel
theorem dL_call_69 : decode cL_call 69 = .ok (.iload_n 2, 1) := by decide +kernel
theorem dL_call_70 : decode cL_call 70 = .ok (.iload_n 3, 1) := by decide +kernel
theorem dL_call_71 : decode cL_call 71 = .ok (.iload 4, 2) := by decide +kernel
theorem dL_call_73 : decode cL_call 73 = .ok (.invokevirtual 17, 3) := by decide +kernel
theorem dL_call_76 : decode cL_call 76 = .ok (.ifCond .eq 7, 3) := by decide +kernel
theorem dL_call_79 : decode cL_call 79 = .ok (.iconst 1, 1) := by decide +kernel
theorem dL_call_80 : decode cL_call 80 = .ok (.goto 4, 3) := by decide +kernel
theorem dL_call_83 : decode cL_call 83 = .ok (.iconst 0, 1) := by decide +kernel
theorem dL_call_84 : decode cL_call 84 = .ok (.ireturn, 1) := by decide +kernel
theorem dL_call_85 : decode cL_call 85 = .ok (.aload_n 0, 1) := by decide +kernel
theorem dL_call_86 : decode cL_call 86 = .ok (.iload_n 2, 1) := by decide +kernel
theorem dL_call_87 : decode cL_call 87 = .ok (.invokevirtual 21, 3) := by decide +kernel
theorem dL_call_90 : decode cL_call 90 = .ok (.ireturn, 1) := by decide +kernel
theorem dL_call_91 : decode cL_call 91 = .ok (.aload_n 0, 1) := by decide +kernel
theorem dL_call_92 : decode cL_call 92 = .ok (.iload_n 2, 1) := by decide +kernel
theorem dL_call_93 : decode cL_call 93 = .ok (.iload_n 3, 1) := by decide +kernel
theorem dL_call_94 : decode cL_call 94 = .ok (.iload 4, 2) := by decide +kernel
theorem dL_call_96 : decode cL_call 96 = .ok (.iload 5, 2) := by decide +kernel
theorem dL_call_98 : decode cL_call 98 = .ok (.iload 6, 2) := by decide +kernel
theorem dL_call_100 : decode cL_call 100 = .ok (.invokevirtual 25, 3) := by decide +kernel
theorem dL_call_103 : decode cL_call 103 = .ok (.ireturn, 1) := by decide +kernel
theorem dL_call_104 : decode cL_call 104 = .ok (.aload_n 0, 1) := by decide +kernel
theorem dL_call_105 : decode cL_call 105 = .ok (.iload_n 2, 1) := by decide +kernel
theorem dL_call_106 : decode cL_call 106 = .ok (.iload_n 3, 1) := by decide +kernel
theorem dL_call_107 : decode cL_call 107 = .ok (.iload 4, 2) := by decide +kernel
theorem dL_call_109 : decode cL_call 109 = .ok (.invokevirtual 28, 3) := by decide +kernel
theorem dL_call_112 : decode cL_call 112 = .ok (.ireturn, 1) := by decide +kernel
theorem dL_call_113 : decode cL_call 113 = .ok (.aload_n 0, 1) := by decide +kernel
theorem dL_call_114 : decode cL_call 114 = .ok (.iload_n 2, 1) := by decide +kernel
theorem dL_call_115 : decode cL_call 115 = .ok (.iload_n 3, 1) := by decide +kernel
theorem dL_call_116 : decode cL_call 116 = .ok (.invokevirtual 32, 3) := by decide +kernel
theorem dL_call_119 : decode cL_call 119 = .ok (.ireturn, 1) := by decide +kernel
theorem dL_call_120 : decode cL_call 120 = .ok (.aload_n 0, 1) := by decide +kernel
theorem dL_call_121 : decode cL_call 121 = .ok (.iload_n 2, 1) := by decide +kernel
theorem dL_call_122 : decode cL_call 122 = .ok (.invokevirtual 35, 3) := by decide +kernel
theorem dL_call_125 : decode cL_call 125 = .ok (.ireturn, 1) := by decide +kernel
theorem dL_call_126 : decode cL_call 126 = .ok (.aload_n 0, 1) := by decide +kernel
theorem dL_call_127 : decode cL_call 127 = .ok (.iload_n 2, 1) := by decide +kernel
theorem dL_call_128 : decode cL_call 128 = .ok (.iload_n 3, 1) := by decide +kernel
theorem dL_call_129 : decode cL_call 129 = .ok (.invokevirtual 38, 3) := by decide +kernel
theorem dL_call_132 : decode cL_call 132 = .ok (.ifCond .eq 7, 3) := by decide +kernel
theorem dL_call_135 : decode cL_call 135 = .ok (.iconst 1, 1) := by decide +kernel
theorem dL_call_136 : decode cL_call 136 = .ok (.goto 4, 3) := by decide +kernel
theorem dL_call_139 : decode cL_call 139 = .ok (.iconst 0, 1) := by decide +kernel
theorem dL_call_140 : decode cL_call 140 = .ok (.ireturn, 1) := by decide +kernel
theorem dL_ask_0 : decode cL_ask 0 = .ok (.aload_n 0, 1) := by decide +kernel
theorem dL_ask_1 : decode cL_ask 1 = .ok (.iload_n 1, 1) := by decide +kernel
theorem dL_ask_2 : decode cL_ask 2 = .ok (.iload_n 2, 1) := by decide +kernel
theorem dL_ask_3 : decode cL_ask 3 = .ok (.iload_n 3, 1) := by decide +kernel
theorem dL_ask_4 : decode cL_ask 4 = .ok (.iload 4, 2) := by decide +kernel
theorem dL_ask_6 : decode cL_ask 6 = .ok (.iload 5, 2) := by decide +kernel
theorem dL_ask_8 : decode cL_ask 8 = .ok (.iload 6, 2) := by decide +kernel
theorem dL_ask_10 : decode cL_ask 10 = .ok (.invokestatic 42, 3) := by decide +kernel
theorem dL_ask_13 : decode cL_ask 13 = .ok (.ireturn, 1) := by decide +kernel
theorem dL_ask_14 : decode cL_ask 14 = .ok (.astore 7, 2) := by decide +kernel
theorem dL_ask_16 : decode cL_ask 16 = .ok (.ldc 50, 2) := by decide +kernel
theorem dL_ask_18 : decode cL_ask 18 = .ok (.ireturn, 1) := by decide +kernel
theorem dL_ask_19 : decode cL_ask 19 = .ok (.astore 7, 2) := by decide +kernel
theorem dL_ask_21 : decode cL_ask 21 = .ok (.ldc 53, 2) := by decide +kernel
theorem dL_ask_23 : decode cL_ask 23 = .ok (.ireturn, 1) := by decide +kernel
theorem dL_ask_24 : decode cL_ask 24 = .ok (.astore 7, 2) := by decide +kernel
theorem dL_ask_26 : decode cL_ask 26 = .ok (.ldc 56, 2) := by decide +kernel
theorem dL_ask_28 : decode cL_ask 28 = .ok (.ireturn, 1) := by decide +kernel
theorem dL_draw_0 : decode cL_draw 0 = .ok (.iload_n 1, 1) := by decide +kernel
theorem dL_draw_1 : decode cL_draw 1 = .ok (.aload_n 0, 1) := by decide +kernel
theorem dL_draw_2 : decode cL_draw 2 = .ok (.arraylength, 1) := by decide +kernel
theorem dL_draw_3 : decode cL_draw 3 = .ok (.if_icmp .ge 9, 3) := by decide +kernel
theorem dL_draw_6 : decode cL_draw 6 = .ok (.aload_n 0, 1) := by decide +kernel
theorem dL_draw_7 : decode cL_draw 7 = .ok (.iload_n 1, 1) := by decide +kernel
theorem dL_draw_8 : decode cL_draw 8 = .ok (.iaload, 1) := by decide +kernel
theorem dL_draw_9 : decode cL_draw 9 = .ok (.goto 18, 3) := by decide +kernel
theorem dL_draw_12 : decode cL_draw 12 = .ok (.ldc 57, 2) := by decide +kernel
theorem dL_draw_14 : decode cL_draw 14 = .ok (.iload_n 1, 1) := by decide +kernel
theorem dL_draw_15 : decode cL_draw 15 = .ok (.imul, 1) := by decide +kernel
theorem dL_draw_16 : decode cL_draw 16 = .ok (.iload_n 1, 1) := by decide +kernel
theorem dL_draw_17 : decode cL_draw 17 = .ok (.imul, 1) := by decide +kernel
theorem dL_draw_18 : decode cL_draw 18 = .ok (.ldc 58, 2) := by decide +kernel
theorem dL_draw_20 : decode cL_draw 20 = .ok (.iload_n 1, 1) := by decide +kernel
theorem dL_draw_21 : decode cL_draw 21 = .ok (.imul, 1) := by decide +kernel
theorem dL_draw_22 : decode cL_draw 22 = .ok (.iadd, 1) := by decide +kernel
theorem dL_draw_23 : decode cL_draw 23 = .ok (.sipush 329, 3) := by decide +kernel
theorem dL_draw_26 : decode cL_draw 26 = .ok (.iadd, 1) := by decide +kernel
theorem dL_draw_27 : decode cL_draw 27 = .ok (.ireturn, 1) := by decide +kernel
theorem dL_poses_0 : decode cL_poses 0 = .ok (.bipush 17, 2) := by decide +kernel
theorem dL_poses_2 : decode cL_poses 2 = .ok (.istore 4, 2) := by decide +kernel
theorem dL_poses_4 : decode cL_poses 4 = .ok (.iconst 0, 1) := by decide +kernel
theorem dL_poses_5 : decode cL_poses 5 = .ok (.istore 5, 2) := by decide +kernel
theorem dL_poses_7 : decode cL_poses 7 = .ok (.iload 5, 2) := by decide +kernel
theorem dL_poses_9 : decode cL_poses 9 = .ok (.iload_n 3, 1) := by decide +kernel
theorem dL_poses_10 : decode cL_poses 10 = .ok (.if_icmp .ge 43, 3) := by decide +kernel
theorem dL_poses_13 : decode cL_poses 13 = .ok (.iconst 0, 1) := by decide +kernel
theorem dL_poses_14 : decode cL_poses 14 = .ok (.istore 6, 2) := by decide +kernel
theorem dL_poses_16 : decode cL_poses 16 = .ok (.iload 6, 2) := by decide +kernel
theorem dL_poses_18 : decode cL_poses 18 = .ok (.bipush 100, 2) := by decide +kernel
theorem dL_poses_20 : decode cL_poses 20 = .ok (.if_icmp .ge 27, 3) := by decide +kernel
theorem dL_poses_23 : decode cL_poses 23 = .ok (.bipush 31, 2) := by decide +kernel
theorem dL_poses_25 : decode cL_poses 25 = .ok (.iload 4, 2) := by decide +kernel
theorem dL_poses_27 : decode cL_poses 27 = .ok (.imul, 1) := by decide +kernel
theorem dL_poses_28 : decode cL_poses 28 = .ok (.aload_n 0, 1) := by decide +kernel
theorem dL_poses_29 : decode cL_poses 29 = .ok (.iload_n 1, 1) := by decide +kernel
theorem dL_poses_30 : decode cL_poses 30 = .ok (.iload_n 2, 1) := by decide +kernel
theorem dL_poses_31 : decode cL_poses 31 = .ok (.iload 5, 2) := by decide +kernel
theorem dL_poses_33 : decode cL_poses 33 = .ok (.iload 6, 2) := by decide +kernel
theorem dL_poses_35 : decode cL_poses 35 = .ok (.invokevirtual 59, 3) := by decide +kernel
theorem dL_poses_38 : decode cL_poses 38 = .ok (.iadd, 1) := by decide +kernel
theorem dL_poses_39 : decode cL_poses 39 = .ok (.istore 4, 2) := by decide +kernel
theorem dL_poses_41 : decode cL_poses 41 = .ok (.iinc 6 33, 3) := by decide +kernel
theorem dL_poses_44 : decode cL_poses 44 = .ok (.goto (-28), 3) := by decide +kernel
theorem dL_poses_47 : decode cL_poses 47 = .ok (.iinc 5 1, 3) := by decide +kernel
theorem dL_poses_50 : decode cL_poses 50 = .ok (.goto (-43), 3) := by decide +kernel
theorem dL_poses_53 : decode cL_poses 53 = .ok (.iload 4, 2) := by decide +kernel
theorem dL_poses_55 : decode cL_poses 55 = .ok (.ireturn, 1) := by decide +kernel
theorem dL_areFrames_0 : decode cL_areFrames 0 = .ok (.iconst 0, 1) := by decide +kernel
theorem dL_areFrames_1 : decode cL_areFrames 1 = .ok (.istore 4, 2) := by decide +kernel
theorem dL_areFrames_3 : decode cL_areFrames 3 = .ok (.iconst 0, 1) := by decide +kernel
theorem dL_areFrames_4 : decode cL_areFrames 4 = .ok (.istore 5, 2) := by decide +kernel
theorem dL_areFrames_6 : decode cL_areFrames 6 = .ok (.iconst (-1), 1) := by decide +kernel
theorem dL_areFrames_7 : decode cL_areFrames 7 = .ok (.istore 6, 2) := by decide +kernel
theorem dL_areFrames_9 : decode cL_areFrames 9 = .ok (.iconst 1, 1) := by decide +kernel
theorem dL_areFrames_10 : decode cL_areFrames 10 = .ok (.istore 7, 2) := by decide +kernel
theorem dL_areFrames_12 : decode cL_areFrames 12 = .ok (.iconst 0, 1) := by decide +kernel
theorem dL_areFrames_13 : decode cL_areFrames 13 = .ok (.istore 8, 2) := by decide +kernel
theorem dL_areFrames_15 : decode cL_areFrames 15 = .ok (.iload 8, 2) := by decide +kernel
theorem dL_areFrames_17 : decode cL_areFrames 17 = .ok (.iload_n 2, 1) := by decide +kernel
theorem dL_areFrames_18 : decode cL_areFrames 18 = .ok (.if_icmp .ge 212, 3) := by decide +kernel
theorem dL_areFrames_21 : decode cL_areFrames 21 = .ok (.iload 7, 2) := by decide +kernel
theorem dL_areFrames_23 : decode cL_areFrames 23 = .ok (.ifCond .eq 207, 3) := by decide +kernel
theorem dL_areFrames_26 : decode cL_areFrames 26 = .ok (.aload_n 0, 1) := by decide +kernel
theorem dL_areFrames_27 : decode cL_areFrames 27 = .ok (.iload_n 1, 1) := by decide +kernel
theorem dL_areFrames_28 : decode cL_areFrames 28 = .ok (.iload 8, 2) := by decide +kernel
theorem dL_areFrames_30 : decode cL_areFrames 30 = .ok (.iconst 0, 1) := by decide +kernel
theorem dL_areFrames_31 : decode cL_areFrames 31 = .ok (.invokevirtual 63, 3) := by decide +kernel
theorem dL_areFrames_34 : decode cL_areFrames 34 = .ok (.istore 9, 2) := by decide +kernel
theorem dL_areFrames_36 : decode cL_areFrames 36 = .ok (.aload_n 0, 1) := by decide +kernel
theorem dL_areFrames_37 : decode cL_areFrames 37 = .ok (.iload_n 1, 1) := by decide +kernel
theorem dL_areFrames_38 : decode cL_areFrames 38 = .ok (.iload 8, 2) := by decide +kernel
theorem dL_areFrames_40 : decode cL_areFrames 40 = .ok (.iconst 5, 1) := by decide +kernel
theorem dL_areFrames_41 : decode cL_areFrames 41 = .ok (.invokevirtual 63, 3) := by decide +kernel
theorem dL_areFrames_44 : decode cL_areFrames 44 = .ok (.istore 10, 2) := by decide +kernel
theorem dL_areFrames_46 : decode cL_areFrames 46 = .ok (.iload 4, 2) := by decide +kernel
theorem dL_areFrames_48 : decode cL_areFrames 48 = .ok (.aload_n 0, 1) := by decide +kernel
theorem dL_areFrames_49 : decode cL_areFrames 49 = .ok (.iload_n 1, 1) := by decide +kernel
theorem dL_areFrames_50 : decode cL_areFrames 50 = .ok (.iload 8, 2) := by decide +kernel
theorem dL_areFrames_52 : decode cL_areFrames 52 = .ok (.iconst 2, 1) := by decide +kernel
theorem dL_areFrames_53 : decode cL_areFrames 53 = .ok (.invokevirtual 63, 3) := by decide +kernel
theorem dL_areFrames_56 : decode cL_areFrames 56 = .ok (.iadd, 1) := by decide +kernel
theorem dL_areFrames_57 : decode cL_areFrames 57 = .ok (.istore 4, 2) := by decide +kernel
theorem dL_areFrames_59 : decode cL_areFrames 59 = .ok (.iload 5, 2) := by decide +kernel
theorem dL_areFrames_61 : decode cL_areFrames 61 = .ok (.aload_n 0, 1) := by decide +kernel
theorem dL_areFrames_62 : decode cL_areFrames 62 = .ok (.iload_n 1, 1) := by decide +kernel
theorem dL_areFrames_63 : decode cL_areFrames 63 = .ok (.iload 8, 2) := by decide +kernel
theorem dL_areFrames_65 : decode cL_areFrames 65 = .ok (.iconst 4, 1) := by decide +kernel
theorem dL_areFrames_66 : decode cL_areFrames 66 = .ok (.invokevirtual 63, 3) := by decide +kernel
theorem dL_areFrames_69 : decode cL_areFrames 69 = .ok (.iadd, 1) := by decide +kernel
theorem dL_areFrames_70 : decode cL_areFrames 70 = .ok (.istore 5, 2) := by decide +kernel
theorem dL_areFrames_72 : decode cL_areFrames 72 = .ok (.iload 9, 2) := by decide +kernel
theorem dL_areFrames_74 : decode cL_areFrames 74 = .ok (.iload 6, 2) := by decide +kernel
theorem dL_areFrames_76 : decode cL_areFrames 76 = .ok (.if_icmp .le 74, 3) := by decide +kernel
theorem dL_areFrames_79 : decode cL_areFrames 79 = .ok (.iload 9, 2) := by decide +kernel
theorem dL_areFrames_81 : decode cL_areFrames 81 = .ok (.bipush 8, 2) := by decide +kernel
theorem dL_areFrames_83 : decode cL_areFrames 83 = .ok (.if_icmp .ge 67, 3) := by decide +kernel
theorem dL_areFrames_86 : decode cL_areFrames 86 = .ok (.iload 10, 2) := by decide +kernel
theorem dL_areFrames_88 : decode cL_areFrames 88 = .ok (.ifCond .le 7, 3) := by decide +kernel
theorem dL_areFrames_91 : decode cL_areFrames 91 = .ok (.iconst 1, 1) := by decide +kernel
theorem dL_areFrames_92 : decode cL_areFrames 92 = .ok (.goto 4, 3) := by decide +kernel
theorem dL_areFrames_95 : decode cL_areFrames 95 = .ok (.iconst 0, 1) := by decide +kernel
theorem dL_areFrames_96 : decode cL_areFrames 96 = .ok (.aload_n 0, 1) := by decide +kernel
theorem dL_areFrames_97 : decode cL_areFrames 97 = .ok (.iload_n 1, 1) := by decide +kernel
theorem dL_areFrames_98 : decode cL_areFrames 98 = .ok (.iload 8, 2) := by decide +kernel
theorem dL_areFrames_100 : decode cL_areFrames 100 = .ok (.iconst 1, 1) := by decide +kernel
theorem dL_areFrames_101 : decode cL_areFrames 101 = .ok (.invokevirtual 63, 3) := by decide +kernel
theorem dL_areFrames_104 : decode cL_areFrames 104 = .ok (.iconst 1, 1) := by decide +kernel
theorem dL_areFrames_105 : decode cL_areFrames 105 = .ok (.if_icmp .ne 7, 3) := by decide +kernel
theorem dL_areFrames_108 : decode cL_areFrames 108 = .ok (.iconst 1, 1) := by decide +kernel
theorem dL_areFrames_109 : decode cL_areFrames 109 = .ok (.goto 4, 3) := by decide +kernel
theorem dL_areFrames_112 : decode cL_areFrames 112 = .ok (.iconst 0, 1) := by decide +kernel
theorem dL_areFrames_113 : decode cL_areFrames 113 = .ok (.if_icmp .ne 37, 3) := by decide +kernel
theorem dL_areFrames_116 : decode cL_areFrames 116 = .ok (.iload 10, 2) := by decide +kernel
theorem dL_areFrames_118 : decode cL_areFrames 118 = .ok (.ifCond .gt 15, 3) := by decide +kernel
theorem dL_areFrames_121 : decode cL_areFrames 121 = .ok (.aload_n 0, 1) := by decide +kernel
theorem dL_areFrames_122 : decode cL_areFrames 122 = .ok (.iload_n 1, 1) := by decide +kernel
theorem dL_areFrames_123 : decode cL_areFrames 123 = .ok (.iload 8, 2) := by decide +kernel
theorem dL_areFrames_125 : decode cL_areFrames 125 = .ok (.iconst 2, 1) := by decide +kernel
theorem dL_areFrames_126 : decode cL_areFrames 126 = .ok (.invokevirtual 63, 3) := by decide +kernel
theorem dL_areFrames_129 : decode cL_areFrames 129 = .ok (.iconst 1, 1) := by decide +kernel
theorem dL_areFrames_130 : decode cL_areFrames 130 = .ok (.if_icmp .ne 20, 3) := by decide +kernel
theorem dL_areFrames_133 : decode cL_areFrames 133 = .ok (.aload_n 0, 1) := by decide +kernel
theorem dL_areFrames_134 : decode cL_areFrames 134 = .ok (.iload_n 1, 1) := by decide +kernel
theorem dL_areFrames_135 : decode cL_areFrames 135 = .ok (.iload 8, 2) := by decide +kernel
theorem dL_areFrames_137 : decode cL_areFrames 137 = .ok (.iconst 3, 1) := by decide +kernel
theorem dL_areFrames_138 : decode cL_areFrames 138 = .ok (.invokevirtual 63, 3) := by decide +kernel
theorem dL_areFrames_141 : decode cL_areFrames 141 = .ok (.bipush 6, 2) := by decide +kernel
theorem dL_areFrames_143 : decode cL_areFrames 143 = .ok (.if_icmp .gt 7, 3) := by decide +kernel
theorem dL_areFrames_146 : decode cL_areFrames 146 = .ok (.iconst 1, 1) := by decide +kernel
theorem dL_areFrames_147 : decode cL_areFrames 147 = .ok (.goto 4, 3) := by decide +kernel
theorem dL_areFrames_150 : decode cL_areFrames 150 = .ok (.iconst 0, 1) := by decide +kernel
theorem dL_areFrames_151 : decode cL_areFrames 151 = .ok (.istore 7, 2) := by decide +kernel
theorem dL_areFrames_153 : decode cL_areFrames 153 = .ok (.iconst 0, 1) := by decide +kernel
theorem dL_areFrames_154 : decode cL_areFrames 154 = .ok (.istore 11, 2) := by decide +kernel
theorem dL_areFrames_156 : decode cL_areFrames 156 = .ok (.iload 11, 2) := by decide +kernel
theorem dL_areFrames_158 : decode cL_areFrames 158 = .ok (.iconst 2, 1) := by decide +kernel
theorem dL_areFrames_159 : decode cL_areFrames 159 = .ok (.if_icmp .ge 61, 3) := by decide +kernel
theorem dL_areFrames_162 : decode cL_areFrames 162 = .ok (.iload 7, 2) := by decide +kernel
theorem dL_areFrames_164 : decode cL_areFrames 164 = .ok (.ifCond .eq 56, 3) := by decide +kernel
theorem dL_areFrames_167 : decode cL_areFrames 167 = .ok (.aload_n 0, 1) := by decide +kernel
theorem dL_areFrames_168 : decode cL_areFrames 168 = .ok (.iload_n 1, 1) := by decide +kernel
theorem dL_areFrames_169 : decode cL_areFrames 169 = .ok (.iload 8, 2) := by decide +kernel
theorem dL_areFrames_171 : decode cL_areFrames 171 = .ok (.iload 11, 2) := by decide +kernel
theorem dL_areFrames_173 : decode cL_areFrames 173 = .ok (.invokevirtual 66, 3) := by decide +kernel
theorem dL_areFrames_176 : decode cL_areFrames 176 = .ok (.istore 12, 2) := by decide +kernel
theorem dL_areFrames_178 : decode cL_areFrames 178 = .ok (.iload 12, 2) := by decide +kernel
theorem dL_areFrames_180 : decode cL_areFrames 180 = .ok (.iconst (-1), 1) := by decide +kernel
theorem dL_areFrames_181 : decode cL_areFrames 181 = .ok (.if_icmp .lt 30, 3) := by decide +kernel
theorem dL_areFrames_184 : decode cL_areFrames 184 = .ok (.iload 12, 2) := by decide +kernel
theorem dL_areFrames_186 : decode cL_areFrames 186 = .ok (.aload_n 0, 1) := by decide +kernel
theorem dL_areFrames_187 : decode cL_areFrames 187 = .ok (.iload 11, 2) := by decide +kernel
theorem dL_areFrames_189 : decode cL_areFrames 189 = .ok (.iconst 1, 1) := by decide +kernel
theorem dL_areFrames_190 : decode cL_areFrames 190 = .ok (.invokevirtual 69, 3) := by decide +kernel
theorem dL_areFrames_193 : decode cL_areFrames 193 = .ok (.if_icmp .ge 18, 3) := by decide +kernel
theorem dL_areFrames_196 : decode cL_areFrames 196 = .ok (.iload 10, 2) := by decide +kernel
theorem dL_areFrames_198 : decode cL_areFrames 198 = .ok (.ifCond .gt 9, 3) := by decide +kernel
theorem dL_areFrames_201 : decode cL_areFrames 201 = .ok (.iload 12, 2) := by decide +kernel
theorem dL_areFrames_203 : decode cL_areFrames 203 = .ok (.iconst (-1), 1) := by decide +kernel
theorem dL_areFrames_204 : decode cL_areFrames 204 = .ok (.if_icmp .ne 7, 3) := by decide +kernel
theorem dL_areFrames_207 : decode cL_areFrames 207 = .ok (.iconst 1, 1) := by decide +kernel
theorem dL_areFrames_208 : decode cL_areFrames 208 = .ok (.goto 4, 3) := by decide +kernel
theorem dL_areFrames_211 : decode cL_areFrames 211 = .ok (.iconst 0, 1) := by decide +kernel
theorem dL_areFrames_212 : decode cL_areFrames 212 = .ok (.istore 7, 2) := by decide +kernel
theorem dL_areFrames_214 : decode cL_areFrames 214 = .ok (.iinc 11 1, 3) := by decide +kernel
theorem dL_areFrames_217 : decode cL_areFrames 217 = .ok (.goto (-61), 3) := by decide +kernel
theorem dL_areFrames_220 : decode cL_areFrames 220 = .ok (.iload 9, 2) := by decide +kernel
theorem dL_areFrames_222 : decode cL_areFrames 222 = .ok (.istore 6, 2) := by decide +kernel
theorem dL_areFrames_224 : decode cL_areFrames 224 = .ok (.iinc 8 1, 3) := by decide +kernel
theorem dL_areFrames_227 : decode cL_areFrames 227 = .ok (.goto (-212), 3) := by decide +kernel
theorem dL_areFrames_230 : decode cL_areFrames 230 = .ok (.iconst 0, 1) := by decide +kernel
theorem dL_areFrames_231 : decode cL_areFrames 231 = .ok (.istore 8, 2) := by decide +kernel
theorem dL_areFrames_233 : decode cL_areFrames 233 = .ok (.iconst 0, 1) := by decide +kernel
theorem dL_areFrames_234 : decode cL_areFrames 234 = .ok (.istore 9, 2) := by decide +kernel
theorem dL_areFrames_236 : decode cL_areFrames 236 = .ok (.iload 9, 2) := by decide +kernel
theorem dL_areFrames_238 : decode cL_areFrames 238 = .ok (.iload_n 3, 1) := by decide +kernel
theorem dL_areFrames_239 : decode cL_areFrames 239 = .ok (.if_icmp .ge 84, 3) := by decide +kernel
theorem dL_areFrames_242 : decode cL_areFrames 242 = .ok (.iload 7, 2) := by decide +kernel
theorem dL_areFrames_244 : decode cL_areFrames 244 = .ok (.ifCond .eq 79, 3) := by decide +kernel
theorem dL_areFrames_247 : decode cL_areFrames 247 = .ok (.iload 8, 2) := by decide +kernel
theorem dL_areFrames_249 : decode cL_areFrames 249 = .ok (.aload_n 0, 1) := by decide +kernel
theorem dL_areFrames_250 : decode cL_areFrames 250 = .ok (.iload 9, 2) := by decide +kernel
theorem dL_areFrames_252 : decode cL_areFrames 252 = .ok (.iconst 0, 1) := by decide +kernel
theorem dL_areFrames_253 : decode cL_areFrames 253 = .ok (.invokevirtual 72, 3) := by decide +kernel
theorem dL_areFrames_256 : decode cL_areFrames 256 = .ok (.iload_n 1, 1) := by decide +kernel
theorem dL_areFrames_257 : decode cL_areFrames 257 = .ok (.if_icmp .ne 17, 3) := by decide +kernel
theorem dL_areFrames_260 : decode cL_areFrames 260 = .ok (.aload_n 0, 1) := by decide +kernel
theorem dL_areFrames_261 : decode cL_areFrames 261 = .ok (.iload 9, 2) := by decide +kernel
theorem dL_areFrames_263 : decode cL_areFrames 263 = .ok (.iconst 2, 1) := by decide +kernel
theorem dL_areFrames_264 : decode cL_areFrames 264 = .ok (.invokevirtual 72, 3) := by decide +kernel
theorem dL_areFrames_267 : decode cL_areFrames 267 = .ok (.ifCond .ne 7, 3) := by decide +kernel
theorem dL_areFrames_270 : decode cL_areFrames 270 = .ok (.iconst 1, 1) := by decide +kernel
theorem dL_areFrames_271 : decode cL_areFrames 271 = .ok (.goto 4, 3) := by decide +kernel
theorem dL_areFrames_274 : decode cL_areFrames 274 = .ok (.iconst 0, 1) := by decide +kernel
theorem dL_areFrames_275 : decode cL_areFrames 275 = .ok (.iadd, 1) := by decide +kernel
theorem dL_areFrames_276 : decode cL_areFrames 276 = .ok (.istore 8, 2) := by decide +kernel
theorem dL_areFrames_278 : decode cL_areFrames 278 = .ok (.aload_n 0, 1) := by decide +kernel
theorem dL_areFrames_279 : decode cL_areFrames 279 = .ok (.iload 9, 2) := by decide +kernel
theorem dL_areFrames_281 : decode cL_areFrames 281 = .ok (.iconst 0, 1) := by decide +kernel
theorem dL_areFrames_282 : decode cL_areFrames 282 = .ok (.invokevirtual 72, 3) := by decide +kernel
theorem dL_areFrames_285 : decode cL_areFrames 285 = .ok (.iload_n 1, 1) := by decide +kernel
theorem dL_areFrames_286 : decode cL_areFrames 286 = .ok (.if_icmp .ne 24, 3) := by decide +kernel
theorem dL_areFrames_289 : decode cL_areFrames 289 = .ok (.aload_n 0, 1) := by decide +kernel
theorem dL_areFrames_290 : decode cL_areFrames 290 = .ok (.iload 9, 2) := by decide +kernel
theorem dL_areFrames_292 : decode cL_areFrames 292 = .ok (.iconst 1, 1) := by decide +kernel
theorem dL_areFrames_293 : decode cL_areFrames 293 = .ok (.invokevirtual 72, 3) := by decide +kernel
theorem dL_areFrames_296 : decode cL_areFrames 296 = .ok (.ifCond .lt 18, 3) := by decide +kernel
theorem dL_areFrames_299 : decode cL_areFrames 299 = .ok (.aload_n 0, 1) := by decide +kernel
theorem dL_areFrames_300 : decode cL_areFrames 300 = .ok (.iload 9, 2) := by decide +kernel
theorem dL_areFrames_302 : decode cL_areFrames 302 = .ok (.iconst 1, 1) := by decide +kernel
theorem dL_areFrames_303 : decode cL_areFrames 303 = .ok (.invokevirtual 72, 3) := by decide +kernel
theorem dL_areFrames_306 : decode cL_areFrames 306 = .ok (.iload_n 2, 1) := by decide +kernel
theorem dL_areFrames_307 : decode cL_areFrames 307 = .ok (.if_icmp .ge 7, 3) := by decide +kernel
theorem dL_areFrames_310 : decode cL_areFrames 310 = .ok (.iconst 1, 1) := by decide +kernel
theorem dL_areFrames_311 : decode cL_areFrames 311 = .ok (.goto 4, 3) := by decide +kernel
theorem dL_areFrames_314 : decode cL_areFrames 314 = .ok (.iconst 0, 1) := by decide +kernel
theorem dL_areFrames_315 : decode cL_areFrames 315 = .ok (.istore 7, 2) := by decide +kernel
theorem dL_areFrames_317 : decode cL_areFrames 317 = .ok (.iinc 9 1, 3) := by decide +kernel
theorem dL_areFrames_320 : decode cL_areFrames 320 = .ok (.goto (-84), 3) := by decide +kernel
theorem dL_areFrames_323 : decode cL_areFrames 323 = .ok (.iload 7, 2) := by decide +kernel
theorem dL_areFrames_325 : decode cL_areFrames 325 = .ok (.ifCond .eq 41, 3) := by decide +kernel
theorem dL_areFrames_328 : decode cL_areFrames 328 = .ok (.aload_n 0, 1) := by decide +kernel
theorem dL_areFrames_329 : decode cL_areFrames 329 = .ok (.iload_n 1, 1) := by decide +kernel
theorem dL_areFrames_330 : decode cL_areFrames 330 = .ok (.invokevirtual 75, 3) := by decide +kernel
theorem dL_areFrames_333 : decode cL_areFrames 333 = .ok (.iload 4, 2) := by decide +kernel
theorem dL_areFrames_335 : decode cL_areFrames 335 = .ok (.if_icmp .ne 31, 3) := by decide +kernel
theorem dL_areFrames_338 : decode cL_areFrames 338 = .ok (.iload 5, 2) := by decide +kernel
theorem dL_areFrames_340 : decode cL_areFrames 340 = .ok (.iload 8, 2) := by decide +kernel
theorem dL_areFrames_342 : decode cL_areFrames 342 = .ok (.if_icmp .ne 24, 3) := by decide +kernel
theorem dL_areFrames_345 : decode cL_areFrames 345 = .ok (.aload_n 0, 1) := by decide +kernel
theorem dL_areFrames_346 : decode cL_areFrames 346 = .ok (.iload_n 1, 1) := by decide +kernel
theorem dL_areFrames_347 : decode cL_areFrames 347 = .ok (.invokevirtual 78, 3) := by decide +kernel
theorem dL_areFrames_350 : decode cL_areFrames 350 = .ok (.ifCond .lt 16, 3) := by decide +kernel
theorem dL_areFrames_353 : decode cL_areFrames 353 = .ok (.aload_n 0, 1) := by decide +kernel
theorem dL_areFrames_354 : decode cL_areFrames 354 = .ok (.iload_n 1, 1) := by decide +kernel
theorem dL_areFrames_355 : decode cL_areFrames 355 = .ok (.invokevirtual 78, 3) := by decide +kernel
theorem dL_areFrames_358 : decode cL_areFrames 358 = .ok (.iconst 2, 1) := by decide +kernel
theorem dL_areFrames_359 : decode cL_areFrames 359 = .ok (.if_icmp .gt 7, 3) := by decide +kernel
theorem dL_areFrames_362 : decode cL_areFrames 362 = .ok (.iconst 1, 1) := by decide +kernel
theorem dL_areFrames_363 : decode cL_areFrames 363 = .ok (.goto 4, 3) := by decide +kernel
theorem dL_areFrames_366 : decode cL_areFrames 366 = .ok (.iconst 0, 1) := by decide +kernel
theorem dL_areFrames_367 : decode cL_areFrames 367 = .ok (.ireturn, 1) := by decide +kernel
theorem dL_law_0 : decode cL_law 0 = .ok (.new 8, 3) := by decide +kernel
theorem dL_law_3 : decode cL_law 3 = .ok (.dup, 1) := by decide +kernel
theorem dL_law_4 : decode cL_law 4 = .ok (.invokespecial 81, 3) := by decide +kernel
theorem dL_law_7 : decode cL_law 7 = .ok (.astore_n 1, 1) := by decide +kernel
theorem dL_law_8 : decode cL_law 8 = .ok (.bipush 24, 2) := by decide +kernel
theorem dL_law_10 : decode cL_law 10 = .ok (.newarray .int, 2) := by decide +kernel
theorem dL_law_12 : decode cL_law 12 = .ok (.astore_n 2, 1) := by decide +kernel
theorem dL_law_13 : decode cL_law 13 = .ok (.bipush 24, 2) := by decide +kernel
theorem dL_law_15 : decode cL_law 15 = .ok (.newarray .int, 2) := by decide +kernel
theorem dL_law_17 : decode cL_law 17 = .ok (.astore_n 3, 1) := by decide +kernel
theorem dL_law_18 : decode cL_law 18 = .ok (.iconst 2, 1) := by decide +kernel
theorem dL_law_19 : decode cL_law 19 = .ok (.newarray .int, 2) := by decide +kernel
theorem dL_law_21 : decode cL_law 21 = .ok (.astore 4, 2) := by decide +kernel
theorem dL_law_23 : decode cL_law 23 = .ok (.iconst 2, 1) := by decide +kernel
theorem dL_law_24 : decode cL_law 24 = .ok (.newarray .int, 2) := by decide +kernel
theorem dL_law_26 : decode cL_law 26 = .ok (.astore 5, 2) := by decide +kernel
theorem dL_law_28 : decode cL_law 28 = .ok (.iconst 2, 1) := by decide +kernel
theorem dL_law_29 : decode cL_law 29 = .ok (.newarray .int, 2) := by decide +kernel
theorem dL_law_31 : decode cL_law 31 = .ok (.astore 6, 2) := by decide +kernel
theorem dL_law_33 : decode cL_law 33 = .ok (.iconst 0, 1) := by decide +kernel
theorem dL_law_34 : decode cL_law 34 = .ok (.istore 7, 2) := by decide +kernel
theorem dL_law_36 : decode cL_law 36 = .ok (.iconst 0, 1) := by decide +kernel
theorem dL_law_37 : decode cL_law 37 = .ok (.istore 8, 2) := by decide +kernel
theorem dL_law_39 : decode cL_law 39 = .ok (.aload_n 1, 1) := by decide +kernel
theorem dL_law_40 : decode cL_law 40 = .ok (.invokevirtual 82, 3) := by decide +kernel
theorem dL_law_43 : decode cL_law 43 = .ok (.ifCond .ne 34, 3) := by decide +kernel
theorem dL_law_46 : decode cL_law 46 = .ok (.aload_n 1, 1) := by decide +kernel
theorem dL_law_47 : decode cL_law 47 = .ok (.invokevirtual 82, 3) := by decide +kernel
theorem dL_law_50 : decode cL_law 50 = .ok (.iconst 1, 1) := by decide +kernel
theorem dL_law_51 : decode cL_law 51 = .ok (.if_icmp .ne 26, 3) := by decide +kernel
theorem dL_law_54 : decode cL_law 54 = .ok (.aload_n 1, 1) := by decide +kernel
theorem dL_law_55 : decode cL_law 55 = .ok (.bipush 8, 2) := by decide +kernel
theorem dL_law_57 : decode cL_law 57 = .ok (.invokevirtual 86, 3) := by decide +kernel
theorem dL_law_60 : decode cL_law 60 = .ok (.ifCond .ne 17, 3) := by decide +kernel
theorem dL_law_63 : decode cL_law 63 = .ok (.aload_n 1, 1) := by decide +kernel
theorem dL_law_64 : decode cL_law 64 = .ok (.bipush 7, 2) := by decide +kernel
theorem dL_law_66 : decode cL_law 66 = .ok (.invokevirtual 86, 3) := by decide +kernel
theorem dL_law_69 : decode cL_law 69 = .ok (.iconst 1, 1) := by decide +kernel
theorem dL_law_70 : decode cL_law 70 = .ok (.if_icmp .ne 7, 3) := by decide +kernel
theorem dL_law_73 : decode cL_law 73 = .ok (.iconst 1, 1) := by decide +kernel
theorem dL_law_74 : decode cL_law 74 = .ok (.goto 4, 3) := by decide +kernel
theorem dL_law_77 : decode cL_law 77 = .ok (.iconst 0, 1) := by decide +kernel
theorem dL_law_78 : decode cL_law 78 = .ok (.istore 9, 2) := by decide +kernel
theorem dL_law_80 : decode cL_law 80 = .ok (.aload 4, 2) := by decide +kernel
theorem dL_law_82 : decode cL_law 82 = .ok (.iconst 0, 1) := by decide +kernel
theorem dL_law_83 : decode cL_law 83 = .ok (.bipush 8, 2) := by decide +kernel
theorem dL_law_85 : decode cL_law 85 = .ok (.iastore, 1) := by decide +kernel
theorem dL_law_86 : decode cL_law 86 = .ok (.aload 4, 2) := by decide +kernel
theorem dL_law_88 : decode cL_law 88 = .ok (.iconst 1, 1) := by decide +kernel
theorem dL_law_89 : decode cL_law 89 = .ok (.bipush 7, 2) := by decide +kernel
theorem dL_law_91 : decode cL_law 91 = .ok (.iastore, 1) := by decide +kernel
theorem dL_law_92 : decode cL_law 92 = .ok (.aload_n 0, 1) := by decide +kernel
theorem dL_law_93 : decode cL_law 93 = .ok (.arraylength, 1) := by decide +kernel
theorem dL_law_94 : decode cL_law 94 = .ok (.bipush 60, 2) := by decide +kernel
theorem dL_law_96 : decode cL_law 96 = .ok (.if_icmp .ge 9, 3) := by decide +kernel
theorem dL_law_99 : decode cL_law 99 = .ok (.sipush 150, 3) := by decide +kernel
theorem dL_law_102 : decode cL_law 102 = .ok (.goto 20, 3) := by decide +kernel
theorem dL_law_105 : decode cL_law 105 = .ok (.aload_n 0, 1) := by decide +kernel
theorem dL_law_106 : decode cL_law 106 = .ok (.arraylength, 1) := by decide +kernel
theorem dL_law_107 : decode cL_law 107 = .ok (.bipush 110, 2) := by decide +kernel
theorem dL_law_109 : decode cL_law 109 = .ok (.if_icmp .ge 10, 3) := by decide +kernel
theorem dL_law_112 : decode cL_law 112 = .ok (.iconst 2, 1) := by decide +kernel
theorem dL_law_113 : decode cL_law 113 = .ok (.aload_n 0, 1) := by decide +kernel
theorem dL_law_114 : decode cL_law 114 = .ok (.arraylength, 1) := by decide +kernel
theorem dL_law_115 : decode cL_law 115 = .ok (.imul, 1) := by decide +kernel
theorem dL_law_116 : decode cL_law 116 = .ok (.goto 6, 3) := by decide +kernel
theorem dL_law_119 : decode cL_law 119 = .ok (.sipush 200, 3) := by decide +kernel
theorem dL_law_122 : decode cL_law 122 = .ok (.istore 10, 2) := by decide +kernel
theorem dL_law_124 : decode cL_law 124 = .ok (.iconst 0, 1) := by decide +kernel
theorem dL_law_125 : decode cL_law 125 = .ok (.istore 11, 2) := by decide +kernel
theorem dL_law_127 : decode cL_law 127 = .ok (.iload 11, 2) := by decide +kernel
theorem dL_law_129 : decode cL_law 129 = .ok (.iload 10, 2) := by decide +kernel
theorem dL_law_131 : decode cL_law 131 = .ok (.if_icmp .ge 1143, 3) := by decide +kernel
theorem dL_law_134 : decode cL_law 134 = .ok (.iload 9, 2) := by decide +kernel
theorem dL_law_136 : decode cL_law 136 = .ok (.ifCond .eq 1138, 3) := by decide +kernel
theorem dL_law_139 : decode cL_law 139 = .ok (.aload_n 0, 1) := by decide +kernel
theorem dL_law_140 : decode cL_law 140 = .ok (.iload 11, 2) := by decide +kernel
theorem dL_law_142 : decode cL_law 142 = .ok (.invokestatic 89, 3) := by decide +kernel
theorem dL_law_145 : decode cL_law 145 = .ok (.iconst 5, 1) := by decide +kernel
theorem dL_law_146 : decode cL_law 146 = .ok (.ishr, 1) := by decide +kernel
theorem dL_law_147 : decode cL_law 147 = .ok (.ldc 93, 2) := by decide +kernel
theorem dL_law_149 : decode cL_law 149 = .ok (.iand, 1) := by decide +kernel
theorem dL_law_150 : decode cL_law 150 = .ok (.istore 12, 2) := by decide +kernel
theorem dL_law_152 : decode cL_law 152 = .ok (.iload 11, 2) := by decide +kernel
theorem dL_law_154 : decode cL_law 154 = .ok (.iconst 2, 1) := by decide +kernel
theorem dL_law_155 : decode cL_law 155 = .ok (.if_icmp .ge 7, 3) := by decide +kernel
theorem dL_law_158 : decode cL_law 158 = .ok (.iconst 0, 1) := by decide +kernel
theorem dL_law_159 : decode cL_law 159 = .ok (.goto 12, 3) := by decide +kernel
theorem dL_law_162 : decode cL_law 162 = .ok (.aload_n 0, 1) := by decide +kernel
theorem dL_law_163 : decode cL_law 163 = .ok (.iload 11, 2) := by decide +kernel
theorem dL_law_165 : decode cL_law 165 = .ok (.invokestatic 89, 3) := by decide +kernel
theorem dL_law_168 : decode cL_law 168 = .ok (.bipush 31, 2) := by decide +kernel
theorem dL_law_170 : decode cL_law 170 = .ok (.iand, 1) := by decide +kernel
theorem dL_law_171 : decode cL_law 171 = .ok (.istore 13, 2) := by decide +kernel
theorem dL_law_173 : decode cL_law 173 = .ok (.iload 11, 2) := by decide +kernel
theorem dL_law_175 : decode cL_law 175 = .ok (.iconst 2, 1) := by decide +kernel
theorem dL_law_176 : decode cL_law 176 = .ok (.if_icmp .ge 8, 3) := by decide +kernel
theorem dL_law_179 : decode cL_law 179 = .ok (.iload 11, 2) := by decide +kernel
theorem dL_law_181 : decode cL_law 181 = .ok (.goto 7, 3) := by decide +kernel
theorem dL_law_184 : decode cL_law 184 = .ok (.iload 12, 2) := by decide +kernel
theorem dL_law_186 : decode cL_law 186 = .ok (.iconst 1, 1) := by decide +kernel
theorem dL_law_187 : decode cL_law 187 = .ok (.iand, 1) := by decide +kernel
theorem dL_law_188 : decode cL_law 188 = .ok (.istore 14, 2) := by decide +kernel
theorem dL_law_190 : decode cL_law 190 = .ok (.iload 12, 2) := by decide +kernel
theorem dL_law_192 : decode cL_law 192 = .ok (.iconst 1, 1) := by decide +kernel
theorem dL_law_193 : decode cL_law 193 = .ok (.ishr, 1) := by decide +kernel
theorem dL_law_194 : decode cL_law 194 = .ok (.iconst 1, 1) := by decide +kernel
theorem dL_law_195 : decode cL_law 195 = .ok (.iand, 1) := by decide +kernel
theorem dL_law_196 : decode cL_law 196 = .ok (.istore 15, 2) := by decide +kernel
theorem dL_law_198 : decode cL_law 198 = .ok (.iload 13, 2) := by decide +kernel
theorem dL_law_200 : decode cL_law 200 = .ok (.iconst 3, 1) := by decide +kernel
theorem dL_law_201 : decode cL_law 201 = .ok (.if_icmp .ge 63, 3) := by decide +kernel
theorem dL_law_204 : decode cL_law 204 = .ok (.aload 6, 2) := by decide +kernel
theorem dL_law_206 : decode cL_law 206 = .ok (.iload 14, 2) := by decide +kernel
theorem dL_law_208 : decode cL_law 208 = .ok (.iaload, 1) := by decide +kernel
theorem dL_law_209 : decode cL_law 209 = .ok (.iconst 3, 1) := by decide +kernel
theorem dL_law_210 : decode cL_law 210 = .ok (.if_icmp .ge 54, 3) := by decide +kernel
theorem dL_law_213 : decode cL_law 213 = .ok (.aload_n 1, 1) := by decide +kernel
theorem dL_law_214 : decode cL_law 214 = .ok (.iconst 0, 1) := by decide +kernel
theorem dL_law_215 : decode cL_law 215 = .ok (.iload 14, 2) := by decide +kernel
theorem dL_law_217 : decode cL_law 217 = .ok (.iload 12, 2) := by decide +kernel
theorem dL_law_219 : decode cL_law 219 = .ok (.iconst 2, 1) := by decide +kernel
theorem dL_law_220 : decode cL_law 220 = .ok (.ishr, 1) := by decide +kernel
theorem dL_law_221 : decode cL_law 221 = .ok (.aload 6, 2) := by decide +kernel
theorem dL_law_223 : decode cL_law 223 = .ok (.iload 14, 2) := by decide +kernel
theorem dL_law_225 : decode cL_law 225 = .ok (.iaload, 1) := by decide +kernel
theorem dL_law_226 : decode cL_law 226 = .ok (.iconst 1, 1) := by decide +kernel
theorem dL_law_227 : decode cL_law 227 = .ok (.iadd, 1) := by decide +kernel
theorem dL_law_228 : decode cL_law 228 = .ok (.irem, 1) := by decide +kernel
theorem dL_law_229 : decode cL_law 229 = .ok (.iconst 1, 1) := by decide +kernel
theorem dL_law_230 : decode cL_law 230 = .ok (.isub, 1) := by decide +kernel
theorem dL_law_231 : decode cL_law 231 = .ok (.iconst 0, 1) := by decide +kernel
theorem dL_law_232 : decode cL_law 232 = .ok (.iconst 0, 1) := by decide +kernel
theorem dL_law_233 : decode cL_law 233 = .ok (.iconst 0, 1) := by decide +kernel
theorem dL_law_234 : decode cL_law 234 = .ok (.invokestatic 94, 3) := by decide +kernel
theorem dL_law_237 : decode cL_law 237 = .ok (.aload 6, 2) := by decide +kernel
theorem dL_law_239 : decode cL_law 239 = .ok (.iload 14, 2) := by decide +kernel
theorem dL_law_241 : decode cL_law 241 = .ok (.iaload, 1) := by decide +kernel
theorem dL_law_242 : decode cL_law 242 = .ok (.if_icmp .ne 7, 3) := by decide +kernel
theorem dL_law_245 : decode cL_law 245 = .ok (.iconst 1, 1) := by decide +kernel
theorem dL_law_246 : decode cL_law 246 = .ok (.goto 4, 3) := by decide +kernel
theorem dL_law_249 : decode cL_law 249 = .ok (.iconst 0, 1) := by decide +kernel
theorem dL_law_250 : decode cL_law 250 = .ok (.istore 9, 2) := by decide +kernel
theorem dL_law_252 : decode cL_law 252 = .ok (.aload 6, 2) := by decide +kernel
theorem dL_law_254 : decode cL_law 254 = .ok (.iload 14, 2) := by decide +kernel
theorem dL_law_256 : decode cL_law 256 = .ok (.dup2, 1) := by decide +kernel
theorem dL_law_257 : decode cL_law 257 = .ok (.iaload, 1) := by decide +kernel
theorem dL_law_258 : decode cL_law 258 = .ok (.iconst 1, 1) := by decide +kernel
theorem dL_law_259 : decode cL_law 259 = .ok (.iadd, 1) := by decide +kernel
theorem dL_law_260 : decode cL_law 260 = .ok (.iastore, 1) := by decide +kernel
theorem dL_law_261 : decode cL_law 261 = .ok (.goto 1007, 3) := by decide +kernel
theorem dL_law_264 : decode cL_law 264 = .ok (.iload 13, 2) := by decide +kernel
theorem dL_law_266 : decode cL_law 266 = .ok (.bipush 11, 2) := by decide +kernel
theorem dL_law_268 : decode cL_law 268 = .ok (.if_icmp .ge 107, 3) := by decide +kernel
theorem dL_law_271 : decode cL_law 271 = .ok (.iload 12, 2) := by decide +kernel
theorem dL_law_273 : decode cL_law 273 = .ok (.iconst 2, 1) := by decide +kernel
theorem dL_law_274 : decode cL_law 274 = .ok (.ishr, 1) := by decide +kernel
theorem dL_law_275 : decode cL_law 275 = .ok (.aload 6, 2) := by decide +kernel
theorem dL_law_277 : decode cL_law 277 = .ok (.iload 14, 2) := by decide +kernel
theorem dL_law_279 : decode cL_law 279 = .ok (.iaload, 1) := by decide +kernel
theorem dL_law_280 : decode cL_law 280 = .ok (.irem, 1) := by decide +kernel
theorem dL_law_281 : decode cL_law 281 = .ok (.istore 16, 2) := by decide +kernel
theorem dL_law_283 : decode cL_law 283 = .ok (.iload 12, 2) := by decide +kernel
theorem dL_law_285 : decode cL_law 285 = .ok (.iconst 5, 1) := by decide +kernel
theorem dL_law_286 : decode cL_law 286 = .ok (.ishr, 1) := by decide +kernel
theorem dL_law_287 : decode cL_law 287 = .ok (.bipush 12, 2) := by decide +kernel
theorem dL_law_289 : decode cL_law 289 = .ok (.irem, 1) := by decide +kernel
theorem dL_law_290 : decode cL_law 290 = .ok (.istore 17, 2) := by decide +kernel
theorem dL_law_292 : decode cL_law 292 = .ok (.iload 12, 2) := by decide +kernel
theorem dL_law_294 : decode cL_law 294 = .ok (.bipush 9, 2) := by decide +kernel
theorem dL_law_296 : decode cL_law 296 = .ok (.ishr, 1) := by decide +kernel
theorem dL_law_297 : decode cL_law 297 = .ok (.sipush 1999, 3) := by decide +kernel
theorem dL_law_300 : decode cL_law 300 = .ok (.irem, 1) := by decide +kernel
theorem dL_law_301 : decode cL_law 301 = .ok (.sipush 999, 3) := by decide +kernel
theorem dL_law_304 : decode cL_law 304 = .ok (.isub, 1) := by decide +kernel
theorem dL_law_305 : decode cL_law 305 = .ok (.istore 18, 2) := by decide +kernel
theorem dL_law_307 : decode cL_law 307 = .ok (.aload_n 1, 1) := by decide +kernel
theorem dL_law_308 : decode cL_law 308 = .ok (.iconst 1, 1) := by decide +kernel
theorem dL_law_309 : decode cL_law 309 = .ok (.iload 14, 2) := by decide +kernel
theorem dL_law_311 : decode cL_law 311 = .ok (.iload 16, 2) := by decide +kernel
theorem dL_law_313 : decode cL_law 313 = .ok (.iload 17, 2) := by decide +kernel
theorem dL_law_315 : decode cL_law 315 = .ok (.iload 18, 2) := by decide +kernel
theorem dL_law_317 : decode cL_law 317 = .ok (.iload 12, 2) := by decide +kernel
theorem dL_law_319 : decode cL_law 319 = .ok (.iconst 4, 1) := by decide +kernel
theorem dL_law_320 : decode cL_law 320 = .ok (.ishr, 1) := by decide +kernel
theorem dL_law_321 : decode cL_law 321 = .ok (.iconst 3, 1) := by decide +kernel
theorem dL_law_322 : decode cL_law 322 = .ok (.irem, 1) := by decide +kernel
theorem dL_law_323 : decode cL_law 323 = .ok (.invokestatic 94, 3) := by decide +kernel
theorem dL_law_326 : decode cL_law 326 = .ok (.istore 19, 2) := by decide +kernel
theorem dL_law_328 : decode cL_law 328 = .ok (.iload 19, 2) := by decide +kernel
theorem dL_law_330 : decode cL_law 330 = .ok (.ifCond .le 39, 3) := by decide +kernel
theorem dL_law_333 : decode cL_law 333 = .ok (.iload 19, 2) := by decide +kernel
theorem dL_law_335 : decode cL_law 335 = .ok (.bipush 13, 2) := by decide +kernel
theorem dL_law_337 : decode cL_law 337 = .ok (.if_icmp .ge 32, 3) := by decide +kernel
theorem dL_law_340 : decode cL_law 340 = .ok (.aload_n 1, 1) := by decide +kernel
theorem dL_law_341 : decode cL_law 341 = .ok (.iload 14, 2) := by decide +kernel
theorem dL_law_343 : decode cL_law 343 = .ok (.iconst (-1), 1) := by decide +kernel
theorem dL_law_344 : decode cL_law 344 = .ok (.iload 16, 2) := by decide +kernel
theorem dL_law_346 : decode cL_law 346 = .ok (.iload 17, 2) := by decide +kernel
theorem dL_law_348 : decode cL_law 348 = .ok (.invokevirtual 59, 3) := by decide +kernel
theorem dL_law_351 : decode cL_law 351 = .ok (.aload_n 1, 1) := by decide +kernel
theorem dL_law_352 : decode cL_law 352 = .ok (.iload 14, 2) := by decide +kernel
theorem dL_law_354 : decode cL_law 354 = .ok (.iconst (-1), 1) := by decide +kernel
theorem dL_law_355 : decode cL_law 355 = .ok (.iload 16, 2) := by decide +kernel
theorem dL_law_357 : decode cL_law 357 = .ok (.iload 17, 2) := by decide +kernel
theorem dL_law_359 : decode cL_law 359 = .ok (.invokevirtual 97, 3) := by decide +kernel
theorem dL_law_362 : decode cL_law 362 = .ok (.if_icmp .ne 7, 3) := by decide +kernel
theorem dL_law_365 : decode cL_law 365 = .ok (.iconst 1, 1) := by decide +kernel
theorem dL_law_366 : decode cL_law 366 = .ok (.goto 4, 3) := by decide +kernel
theorem dL_law_369 : decode cL_law 369 = .ok (.iconst 0, 1) := by decide +kernel
theorem dL_law_370 : decode cL_law 370 = .ok (.istore 9, 2) := by decide +kernel
theorem dL_law_372 : decode cL_law 372 = .ok (.goto 896, 3) := by decide +kernel
theorem dL_law_375 : decode cL_law 375 = .ok (.iload 13, 2) := by decide +kernel
theorem dL_law_377 : decode cL_law 377 = .ok (.bipush 13, 2) := by decide +kernel
theorem dL_law_379 : decode cL_law 379 = .ok (.if_icmp .ge 81, 3) := by decide +kernel
theorem dL_law_382 : decode cL_law 382 = .ok (.aload_n 1, 1) := by decide +kernel
theorem dL_law_383 : decode cL_law 383 = .ok (.iconst 2, 1) := by decide +kernel
theorem dL_law_384 : decode cL_law 384 = .ok (.iload 14, 2) := by decide +kernel
theorem dL_law_386 : decode cL_law 386 = .ok (.iload 12, 2) := by decide +kernel
theorem dL_law_388 : decode cL_law 388 = .ok (.iconst 2, 1) := by decide +kernel
theorem dL_law_389 : decode cL_law 389 = .ok (.ishr, 1) := by decide +kernel
theorem dL_law_390 : decode cL_law 390 = .ok (.aload 6, 2) := by decide +kernel
theorem dL_law_392 : decode cL_law 392 = .ok (.iload 14, 2) := by decide +kernel
theorem dL_law_394 : decode cL_law 394 = .ok (.iaload, 1) := by decide +kernel
theorem dL_law_395 : decode cL_law 395 = .ok (.irem, 1) := by decide +kernel
theorem dL_law_396 : decode cL_law 396 = .ok (.iload 12, 2) := by decide +kernel
theorem dL_law_398 : decode cL_law 398 = .ok (.iconst 5, 1) := by decide +kernel
theorem dL_law_399 : decode cL_law 399 = .ok (.ishr, 1) := by decide +kernel
theorem dL_law_400 : decode cL_law 400 = .ok (.bipush 12, 2) := by decide +kernel
theorem dL_law_402 : decode cL_law 402 = .ok (.irem, 1) := by decide +kernel
theorem dL_law_403 : decode cL_law 403 = .ok (.iconst 0, 1) := by decide +kernel
theorem dL_law_404 : decode cL_law 404 = .ok (.iconst 0, 1) := by decide +kernel
theorem dL_law_405 : decode cL_law 405 = .ok (.invokestatic 94, 3) := by decide +kernel
theorem dL_law_408 : decode cL_law 408 = .ok (.istore 16, 2) := by decide +kernel
theorem dL_law_410 : decode cL_law 410 = .ok (.iload 16, 2) := by decide +kernel
theorem dL_law_412 : decode cL_law 412 = .ok (.ifCond .eq 9, 3) := by decide +kernel
theorem dL_law_415 : decode cL_law 415 = .ok (.iload 16, 2) := by decide +kernel
theorem dL_law_417 : decode cL_law 417 = .ok (.iconst 1, 1) := by decide +kernel
theorem dL_law_418 : decode cL_law 418 = .ok (.if_icmp .ne 36, 3) := by decide +kernel
theorem dL_law_421 : decode cL_law 421 = .ok (.aload_n 1, 1) := by decide +kernel
theorem dL_law_422 : decode cL_law 422 = .ok (.iconst 2, 1) := by decide +kernel
theorem dL_law_423 : decode cL_law 423 = .ok (.iload 14, 2) := by decide +kernel
theorem dL_law_425 : decode cL_law 425 = .ok (.iload 12, 2) := by decide +kernel
theorem dL_law_427 : decode cL_law 427 = .ok (.iconst 2, 1) := by decide +kernel
theorem dL_law_428 : decode cL_law 428 = .ok (.ishr, 1) := by decide +kernel
theorem dL_law_429 : decode cL_law 429 = .ok (.aload 6, 2) := by decide +kernel
theorem dL_law_431 : decode cL_law 431 = .ok (.iload 14, 2) := by decide +kernel
theorem dL_law_433 : decode cL_law 433 = .ok (.iaload, 1) := by decide +kernel
theorem dL_law_434 : decode cL_law 434 = .ok (.irem, 1) := by decide +kernel
theorem dL_law_435 : decode cL_law 435 = .ok (.iload 12, 2) := by decide +kernel
theorem dL_law_437 : decode cL_law 437 = .ok (.iconst 5, 1) := by decide +kernel
theorem dL_law_438 : decode cL_law 438 = .ok (.ishr, 1) := by decide +kernel
theorem dL_law_439 : decode cL_law 439 = .ok (.bipush 12, 2) := by decide +kernel
theorem dL_law_441 : decode cL_law 441 = .ok (.irem, 1) := by decide +kernel
theorem dL_law_442 : decode cL_law 442 = .ok (.iconst 0, 1) := by decide +kernel
theorem dL_law_443 : decode cL_law 443 = .ok (.iconst 0, 1) := by decide +kernel
theorem dL_law_444 : decode cL_law 444 = .ok (.invokestatic 94, 3) := by decide +kernel
theorem dL_law_447 : decode cL_law 447 = .ok (.ifCond .ne 7, 3) := by decide +kernel
theorem dL_law_450 : decode cL_law 450 = .ok (.iconst 1, 1) := by decide +kernel
theorem dL_law_451 : decode cL_law 451 = .ok (.goto 4, 3) := by decide +kernel
theorem dL_law_454 : decode cL_law 454 = .ok (.iconst 0, 1) := by decide +kernel
theorem dL_law_455 : decode cL_law 455 = .ok (.istore 9, 2) := by decide +kernel
theorem dL_law_457 : decode cL_law 457 = .ok (.goto 811, 3) := by decide +kernel
theorem dL_law_460 : decode cL_law 460 = .ok (.iload 13, 2) := by decide +kernel
theorem dL_law_462 : decode cL_law 462 = .ok (.bipush 16, 2) := by decide +kernel
theorem dL_law_464 : decode cL_law 464 = .ok (.if_icmp .ge 94, 3) := by decide +kernel
theorem dL_law_467 : decode cL_law 467 = .ok (.aload 5, 2) := by decide +kernel
theorem dL_law_469 : decode cL_law 469 = .ok (.iload 14, 2) := by decide +kernel
theorem dL_law_471 : decode cL_law 471 = .ok (.iaload, 1) := by decide +kernel
theorem dL_law_472 : decode cL_law 472 = .ok (.bipush 12, 2) := by decide +kernel
theorem dL_law_474 : decode cL_law 474 = .ok (.if_icmp .ge 84, 3) := by decide +kernel
theorem dL_law_477 : decode cL_law 477 = .ok (.aload_n 1, 1) := by decide +kernel
theorem dL_law_478 : decode cL_law 478 = .ok (.iconst 3, 1) := by decide +kernel
theorem dL_law_479 : decode cL_law 479 = .ok (.iload 14, 2) := by decide +kernel
theorem dL_law_481 : decode cL_law 481 = .ok (.iconst 0, 1) := by decide +kernel
theorem dL_law_482 : decode cL_law 482 = .ok (.iconst 0, 1) := by decide +kernel
theorem dL_law_483 : decode cL_law 483 = .ok (.iconst 0, 1) := by decide +kernel
theorem dL_law_484 : decode cL_law 484 = .ok (.iconst 0, 1) := by decide +kernel
theorem dL_law_485 : decode cL_law 485 = .ok (.invokestatic 94, 3) := by decide +kernel
theorem dL_law_488 : decode cL_law 488 = .ok (.aload 5, 2) := by decide +kernel
theorem dL_law_490 : decode cL_law 490 = .ok (.iload 14, 2) := by decide +kernel
theorem dL_law_492 : decode cL_law 492 = .ok (.iaload, 1) := by decide +kernel
theorem dL_law_493 : decode cL_law 493 = .ok (.if_icmp .ne 7, 3) := by decide +kernel
theorem dL_law_496 : decode cL_law 496 = .ok (.iconst 1, 1) := by decide +kernel
theorem dL_law_497 : decode cL_law 497 = .ok (.goto 4, 3) := by decide +kernel
theorem dL_law_500 : decode cL_law 500 = .ok (.iconst 0, 1) := by decide +kernel
theorem dL_law_501 : decode cL_law 501 = .ok (.istore 9, 2) := by decide +kernel
theorem dL_law_503 : decode cL_law 503 = .ok (.aload_n 3, 1) := by decide +kernel
theorem dL_law_504 : decode cL_law 504 = .ok (.bipush 12, 2) := by decide +kernel
theorem dL_law_506 : decode cL_law 506 = .ok (.iload 14, 2) := by decide +kernel
theorem dL_law_508 : decode cL_law 508 = .ok (.imul, 1) := by decide +kernel
theorem dL_law_509 : decode cL_law 509 = .ok (.aload 5, 2) := by decide +kernel
theorem dL_law_511 : decode cL_law 511 = .ok (.iload 14, 2) := by decide +kernel
theorem dL_law_513 : decode cL_law 513 = .ok (.iaload, 1) := by decide +kernel
theorem dL_law_514 : decode cL_law 514 = .ok (.iadd, 1) := by decide +kernel
theorem dL_law_515 : decode cL_law 515 = .ok (.aload 6, 2) := by decide +kernel
theorem dL_law_517 : decode cL_law 517 = .ok (.iload 14, 2) := by decide +kernel
theorem dL_law_519 : decode cL_law 519 = .ok (.iaload, 1) := by decide +kernel
theorem dL_law_520 : decode cL_law 520 = .ok (.iastore, 1) := by decide +kernel
theorem dL_law_521 : decode cL_law 521 = .ok (.aload_n 2, 1) := by decide +kernel
theorem dL_law_522 : decode cL_law 522 = .ok (.bipush 12, 2) := by decide +kernel
theorem dL_law_524 : decode cL_law 524 = .ok (.iload 14, 2) := by decide +kernel
theorem dL_law_526 : decode cL_law 526 = .ok (.imul, 1) := by decide +kernel
theorem dL_law_527 : decode cL_law 527 = .ok (.aload 5, 2) := by decide +kernel
theorem dL_law_529 : decode cL_law 529 = .ok (.iload 14, 2) := by decide +kernel
theorem dL_law_531 : decode cL_law 531 = .ok (.iaload, 1) := by decide +kernel
theorem dL_law_532 : decode cL_law 532 = .ok (.iadd, 1) := by decide +kernel
theorem dL_law_533 : decode cL_law 533 = .ok (.aload_n 1, 1) := by decide +kernel
theorem dL_law_534 : decode cL_law 534 = .ok (.iload 14, 2) := by decide +kernel
theorem dL_law_536 : decode cL_law 536 = .ok (.iconst (-1), 1) := by decide +kernel
theorem dL_law_537 : decode cL_law 537 = .ok (.aload 6, 2) := by decide +kernel
theorem dL_law_539 : decode cL_law 539 = .ok (.iload 14, 2) := by decide +kernel
theorem dL_law_541 : decode cL_law 541 = .ok (.iaload, 1) := by decide +kernel
theorem dL_law_542 : decode cL_law 542 = .ok (.invokestatic 100, 3) := by decide +kernel
theorem dL_law_545 : decode cL_law 545 = .ok (.iastore, 1) := by decide +kernel
theorem dL_law_546 : decode cL_law 546 = .ok (.aload 5, 2) := by decide +kernel
theorem dL_law_548 : decode cL_law 548 = .ok (.iload 14, 2) := by decide +kernel
theorem dL_law_550 : decode cL_law 550 = .ok (.dup2, 1) := by decide +kernel
theorem dL_law_551 : decode cL_law 551 = .ok (.iaload, 1) := by decide +kernel
theorem dL_law_552 : decode cL_law 552 = .ok (.iconst 1, 1) := by decide +kernel
theorem dL_law_553 : decode cL_law 553 = .ok (.iadd, 1) := by decide +kernel
theorem dL_law_554 : decode cL_law 554 = .ok (.iastore, 1) := by decide +kernel
theorem dL_law_555 : decode cL_law 555 = .ok (.goto 713, 3) := by decide +kernel
theorem dL_law_558 : decode cL_law 558 = .ok (.iload 13, 2) := by decide +kernel
theorem dL_law_560 : decode cL_law 560 = .ok (.bipush 19, 2) := by decide +kernel
theorem dL_law_562 : decode cL_law 562 = .ok (.if_icmp .ge 77, 3) := by decide +kernel
theorem dL_law_565 : decode cL_law 565 = .ok (.iload 12, 2) := by decide +kernel
theorem dL_law_567 : decode cL_law 567 = .ok (.iconst 2, 1) := by decide +kernel
theorem dL_law_568 : decode cL_law 568 = .ok (.ishr, 1) := by decide +kernel
theorem dL_law_569 : decode cL_law 569 = .ok (.aload 5, 2) := by decide +kernel
theorem dL_law_571 : decode cL_law 571 = .ok (.iload 14, 2) := by decide +kernel
theorem dL_law_573 : decode cL_law 573 = .ok (.iaload, 1) := by decide +kernel
theorem dL_law_574 : decode cL_law 574 = .ok (.iconst 1, 1) := by decide +kernel
theorem dL_law_575 : decode cL_law 575 = .ok (.iadd, 1) := by decide +kernel
theorem dL_law_576 : decode cL_law 576 = .ok (.irem, 1) := by decide +kernel
theorem dL_law_577 : decode cL_law 577 = .ok (.iconst 1, 1) := by decide +kernel
theorem dL_law_578 : decode cL_law 578 = .ok (.isub, 1) := by decide +kernel
theorem dL_law_579 : decode cL_law 579 = .ok (.istore 16, 2) := by decide +kernel
theorem dL_law_581 : decode cL_law 581 = .ok (.iload 12, 2) := by decide +kernel
theorem dL_law_583 : decode cL_law 583 = .ok (.bipush 6, 2) := by decide +kernel
theorem dL_law_585 : decode cL_law 585 = .ok (.ishr, 1) := by decide +kernel
theorem dL_law_586 : decode cL_law 586 = .ok (.bipush 6, 2) := by decide +kernel
theorem dL_law_588 : decode cL_law 588 = .ok (.irem, 1) := by decide +kernel
theorem dL_law_589 : decode cL_law 589 = .ok (.istore 17, 2) := by decide +kernel
theorem dL_law_591 : decode cL_law 591 = .ok (.aload_n 1, 1) := by decide +kernel
theorem dL_law_592 : decode cL_law 592 = .ok (.iconst 4, 1) := by decide +kernel
theorem dL_law_593 : decode cL_law 593 = .ok (.iload 15, 2) := by decide +kernel
theorem dL_law_595 : decode cL_law 595 = .ok (.iload 14, 2) := by decide +kernel
theorem dL_law_597 : decode cL_law 597 = .ok (.iload 16, 2) := by decide +kernel
theorem dL_law_599 : decode cL_law 599 = .ok (.iload 17, 2) := by decide +kernel
theorem dL_law_601 : decode cL_law 601 = .ok (.iload 17, 2) := by decide +kernel
theorem dL_law_603 : decode cL_law 603 = .ok (.iload 12, 2) := by decide +kernel
theorem dL_law_605 : decode cL_law 605 = .ok (.bipush 9, 2) := by decide +kernel
theorem dL_law_607 : decode cL_law 607 = .ok (.ishr, 1) := by decide +kernel
theorem dL_law_608 : decode cL_law 608 = .ok (.bipush 8, 2) := by decide +kernel
theorem dL_law_610 : decode cL_law 610 = .ok (.irem, 1) := by decide +kernel
theorem dL_law_611 : decode cL_law 611 = .ok (.iadd, 1) := by decide +kernel
theorem dL_law_612 : decode cL_law 612 = .ok (.invokestatic 94, 3) := by decide +kernel
theorem dL_law_615 : decode cL_law 615 = .ok (.istore 18, 2) := by decide +kernel
theorem dL_law_617 : decode cL_law 617 = .ok (.iload 18, 2) := by decide +kernel
theorem dL_law_619 : decode cL_law 619 = .ok (.iconst 1, 1) := by decide +kernel
theorem dL_law_620 : decode cL_law 620 = .ok (.if_icmp .eq 9, 3) := by decide +kernel
theorem dL_law_623 : decode cL_law 623 = .ok (.iload 18, 2) := by decide +kernel
theorem dL_law_625 : decode cL_law 625 = .ok (.iconst 2, 1) := by decide +kernel
theorem dL_law_626 : decode cL_law 626 = .ok (.if_icmp .ne 7, 3) := by decide +kernel
theorem dL_law_629 : decode cL_law 629 = .ok (.iconst 1, 1) := by decide +kernel
theorem dL_law_630 : decode cL_law 630 = .ok (.goto 4, 3) := by decide +kernel
theorem dL_law_633 : decode cL_law 633 = .ok (.iconst 0, 1) := by decide +kernel
theorem dL_law_634 : decode cL_law 634 = .ok (.istore 9, 2) := by decide +kernel
theorem dL_law_636 : decode cL_law 636 = .ok (.goto 632, 3) := by decide +kernel
theorem dL_law_639 : decode cL_law 639 = .ok (.iload 13, 2) := by decide +kernel
theorem dL_law_641 : decode cL_law 641 = .ok (.bipush 19, 2) := by decide +kernel
theorem dL_law_643 : decode cL_law 643 = .ok (.if_icmp .ne 122, 3) := by decide +kernel
theorem dL_law_646 : decode cL_law 646 = .ok (.iload 12, 2) := by decide +kernel
theorem dL_law_648 : decode cL_law 648 = .ok (.iconst 2, 1) := by decide +kernel
theorem dL_law_649 : decode cL_law 649 = .ok (.ishr, 1) := by decide +kernel
theorem dL_law_650 : decode cL_law 650 = .ok (.aload 4, 2) := by decide +kernel
theorem dL_law_652 : decode cL_law 652 = .ok (.iload 15, 2) := by decide +kernel
theorem dL_law_654 : decode cL_law 654 = .ok (.iaload, 1) := by decide +kernel
theorem dL_law_655 : decode cL_law 655 = .ok (.irem, 1) := by decide +kernel
theorem dL_law_656 : decode cL_law 656 = .ok (.istore 16, 2) := by decide +kernel
theorem dL_law_658 : decode cL_law 658 = .ok (.iconst 1, 1) := by decide +kernel
theorem dL_law_659 : decode cL_law 659 = .ok (.iload 12, 2) := by decide +kernel
theorem dL_law_661 : decode cL_law 661 = .ok (.iconst 5, 1) := by decide +kernel
theorem dL_law_662 : decode cL_law 662 = .ok (.ishr, 1) := by decide +kernel
theorem dL_law_663 : decode cL_law 663 = .ok (.iconst 2, 1) := by decide +kernel
theorem dL_law_664 : decode cL_law 664 = .ok (.irem, 1) := by decide +kernel
theorem dL_law_665 : decode cL_law 665 = .ok (.iadd, 1) := by decide +kernel
theorem dL_law_666 : decode cL_law 666 = .ok (.istore 17, 2) := by decide +kernel
theorem dL_law_668 : decode cL_law 668 = .ok (.aload_n 1, 1) := by decide +kernel
theorem dL_law_669 : decode cL_law 669 = .ok (.iconst 5, 1) := by decide +kernel
theorem dL_law_670 : decode cL_law 670 = .ok (.iload 15, 2) := by decide +kernel
theorem dL_law_672 : decode cL_law 672 = .ok (.iload 16, 2) := by decide +kernel
theorem dL_law_674 : decode cL_law 674 = .ok (.iload 17, 2) := by decide +kernel
theorem dL_law_676 : decode cL_law 676 = .ok (.iconst 0, 1) := by decide +kernel
theorem dL_law_677 : decode cL_law 677 = .ok (.iconst 0, 1) := by decide +kernel
theorem dL_law_678 : decode cL_law 678 = .ok (.invokestatic 94, 3) := by decide +kernel
theorem dL_law_681 : decode cL_law 681 = .ok (.istore 18, 2) := by decide +kernel
theorem dL_law_683 : decode cL_law 683 = .ok (.iload 17, 2) := by decide +kernel
theorem dL_law_685 : decode cL_law 685 = .ok (.aload 4, 2) := by decide +kernel
theorem dL_law_687 : decode cL_law 687 = .ok (.iload 15, 2) := by decide +kernel
theorem dL_law_689 : decode cL_law 689 = .ok (.iaload, 1) := by decide +kernel
theorem dL_law_690 : decode cL_law 690 = .ok (.iload 16, 2) := by decide +kernel
theorem dL_law_692 : decode cL_law 692 = .ok (.isub, 1) := by decide +kernel
theorem dL_law_693 : decode cL_law 693 = .ok (.if_icmp .gt 17, 3) := by decide +kernel
theorem dL_law_696 : decode cL_law 696 = .ok (.iload 17, 2) := by decide +kernel
theorem dL_law_698 : decode cL_law 698 = .ok (.aload 4, 2) := by decide +kernel
theorem dL_law_700 : decode cL_law 700 = .ok (.iload 15, 2) := by decide +kernel
theorem dL_law_702 : decode cL_law 702 = .ok (.iaload, 1) := by decide +kernel
theorem dL_law_703 : decode cL_law 703 = .ok (.if_icmp .ge 7, 3) := by decide +kernel
theorem dL_law_706 : decode cL_law 706 = .ok (.iconst 1, 1) := by decide +kernel
theorem dL_law_707 : decode cL_law 707 = .ok (.goto 4, 3) := by decide +kernel
theorem dL_law_710 : decode cL_law 710 = .ok (.iconst 0, 1) := by decide +kernel
theorem dL_law_711 : decode cL_law 711 = .ok (.istore 19, 2) := by decide +kernel
theorem dL_law_713 : decode cL_law 713 = .ok (.iload 18, 2) := by decide +kernel
theorem dL_law_715 : decode cL_law 715 = .ok (.iload 19, 2) := by decide +kernel
theorem dL_law_717 : decode cL_law 717 = .ok (.ifCond .eq 14, 3) := by decide +kernel
theorem dL_law_720 : decode cL_law 720 = .ok (.aload 4, 2) := by decide +kernel
theorem dL_law_722 : decode cL_law 722 = .ok (.iload 15, 2) := by decide +kernel
theorem dL_law_724 : decode cL_law 724 = .ok (.iaload, 1) := by decide +kernel
theorem dL_law_725 : decode cL_law 725 = .ok (.iload 17, 2) := by decide +kernel
theorem dL_law_727 : decode cL_law 727 = .ok (.isub, 1) := by decide +kernel
theorem dL_law_728 : decode cL_law 728 = .ok (.goto 5, 3) := by decide +kernel
theorem dL_law_731 : decode cL_law 731 = .ok (.ldc 56, 2) := by decide +kernel
theorem dL_law_733 : decode cL_law 733 = .ok (.if_icmp .ne 7, 3) := by decide +kernel
theorem dL_law_736 : decode cL_law 736 = .ok (.iconst 1, 1) := by decide +kernel
theorem dL_law_737 : decode cL_law 737 = .ok (.goto 4, 3) := by decide +kernel
theorem dL_law_740 : decode cL_law 740 = .ok (.iconst 0, 1) := by decide +kernel
theorem dL_law_741 : decode cL_law 741 = .ok (.istore 9, 2) := by decide +kernel
theorem dL_law_743 : decode cL_law 743 = .ok (.aload 4, 2) := by decide +kernel
theorem dL_law_745 : decode cL_law 745 = .ok (.iload 15, 2) := by decide +kernel
theorem dL_law_747 : decode cL_law 747 = .ok (.dup2, 1) := by decide +kernel
theorem dL_law_748 : decode cL_law 748 = .ok (.iaload, 1) := by decide +kernel
theorem dL_law_749 : decode cL_law 749 = .ok (.iload 19, 2) := by decide +kernel
theorem dL_law_751 : decode cL_law 751 = .ok (.ifCond .eq 8, 3) := by decide +kernel
theorem dL_law_754 : decode cL_law 754 = .ok (.iload 17, 2) := by decide +kernel
theorem dL_law_756 : decode cL_law 756 = .ok (.goto 4, 3) := by decide +kernel
theorem dL_law_759 : decode cL_law 759 = .ok (.iconst 0, 1) := by decide +kernel
theorem dL_law_760 : decode cL_law 760 = .ok (.isub, 1) := by decide +kernel
theorem dL_law_761 : decode cL_law 761 = .ok (.iastore, 1) := by decide +kernel
theorem dL_law_762 : decode cL_law 762 = .ok (.goto 506, 3) := by decide +kernel
theorem dL_law_765 : decode cL_law 765 = .ok (.iload 13, 2) := by decide +kernel
theorem dL_law_767 : decode cL_law 767 = .ok (.bipush 22, 2) := by decide +kernel
theorem dL_law_769 : decode cL_law 769 = .ok (.if_icmp .ge 49, 3) := by decide +kernel
theorem dL_law_772 : decode cL_law 772 = .ok (.iload 7, 2) := by decide +kernel
theorem dL_law_774 : decode cL_law 774 = .ok (.bipush 40, 2) := by decide +kernel
theorem dL_law_776 : decode cL_law 776 = .ok (.if_icmp .ge 42, 3) := by decide +kernel
theorem dL_law_779 : decode cL_law 779 = .ok (.aload_n 1, 1) := by decide +kernel
theorem dL_law_780 : decode cL_law 780 = .ok (.bipush 6, 2) := by decide +kernel
theorem dL_law_782 : decode cL_law 782 = .ok (.iload 15, 2) := by decide +kernel
theorem dL_law_784 : decode cL_law 784 = .ok (.iload 12, 2) := by decide +kernel
theorem dL_law_786 : decode cL_law 786 = .ok (.iconst 2, 1) := by decide +kernel
theorem dL_law_787 : decode cL_law 787 = .ok (.ishr, 1) := by decide +kernel
theorem dL_law_788 : decode cL_law 788 = .ok (.aload 4, 2) := by decide +kernel
theorem dL_law_790 : decode cL_law 790 = .ok (.iload 15, 2) := by decide +kernel
theorem dL_law_792 : decode cL_law 792 = .ok (.iaload, 1) := by decide +kernel
theorem dL_law_793 : decode cL_law 793 = .ok (.irem, 1) := by decide +kernel
theorem dL_law_794 : decode cL_law 794 = .ok (.iconst 0, 1) := by decide +kernel
theorem dL_law_795 : decode cL_law 795 = .ok (.iconst 0, 1) := by decide +kernel
theorem dL_law_796 : decode cL_law 796 = .ok (.iconst 0, 1) := by decide +kernel
theorem dL_law_797 : decode cL_law 797 = .ok (.invokestatic 94, 3) := by decide +kernel
theorem dL_law_800 : decode cL_law 800 = .ok (.iload 7, 2) := by decide +kernel
theorem dL_law_802 : decode cL_law 802 = .ok (.if_icmp .ne 7, 3) := by decide +kernel
theorem dL_law_805 : decode cL_law 805 = .ok (.iconst 1, 1) := by decide +kernel
theorem dL_law_806 : decode cL_law 806 = .ok (.goto 4, 3) := by decide +kernel
theorem dL_law_809 : decode cL_law 809 = .ok (.iconst 0, 1) := by decide +kernel
theorem dL_law_810 : decode cL_law 810 = .ok (.istore 9, 2) := by decide +kernel
theorem dL_law_812 : decode cL_law 812 = .ok (.iinc 7 1, 3) := by decide +kernel
theorem dL_law_815 : decode cL_law 815 = .ok (.goto 453, 3) := by decide +kernel
theorem dL_law_818 : decode cL_law 818 = .ok (.iload 13, 2) := by decide +kernel
theorem dL_law_820 : decode cL_law 820 = .ok (.bipush 22, 2) := by decide +kernel
theorem dL_law_822 : decode cL_law 822 = .ok (.if_icmp .ne 98, 3) := by decide +kernel
theorem dL_law_825 : decode cL_law 825 = .ok (.iload 7, 2) := by decide +kernel
theorem dL_law_827 : decode cL_law 827 = .ok (.ifCond .le 93, 3) := by decide +kernel
theorem dL_law_830 : decode cL_law 830 = .ok (.aload_n 1, 1) := by decide +kernel
theorem dL_law_831 : decode cL_law 831 = .ok (.bipush 6, 2) := by decide +kernel
theorem dL_law_833 : decode cL_law 833 = .ok (.invokevirtual 104, 3) := by decide +kernel
theorem dL_law_836 : decode cL_law 836 = .ok (.istore 16, 2) := by decide +kernel
theorem dL_law_838 : decode cL_law 838 = .ok (.aload_n 1, 1) := by decide +kernel
theorem dL_law_839 : decode cL_law 839 = .ok (.bipush 7, 2) := by decide +kernel
theorem dL_law_841 : decode cL_law 841 = .ok (.iload 12, 2) := by decide +kernel
theorem dL_law_843 : decode cL_law 843 = .ok (.iconst 2, 1) := by decide +kernel
theorem dL_law_844 : decode cL_law 844 = .ok (.ishr, 1) := by decide +kernel
theorem dL_law_845 : decode cL_law 845 = .ok (.iload 7, 2) := by decide +kernel
theorem dL_law_847 : decode cL_law 847 = .ok (.irem, 1) := by decide +kernel
theorem dL_law_848 : decode cL_law 848 = .ok (.iconst 0, 1) := by decide +kernel
theorem dL_law_849 : decode cL_law 849 = .ok (.iconst 0, 1) := by decide +kernel
theorem dL_law_850 : decode cL_law 850 = .ok (.iconst 0, 1) := by decide +kernel
theorem dL_law_851 : decode cL_law 851 = .ok (.iconst 0, 1) := by decide +kernel
theorem dL_law_852 : decode cL_law 852 = .ok (.invokestatic 94, 3) := by decide +kernel
theorem dL_law_855 : decode cL_law 855 = .ok (.istore 17, 2) := by decide +kernel
theorem dL_law_857 : decode cL_law 857 = .ok (.iload 17, 2) := by decide +kernel
theorem dL_law_859 : decode cL_law 859 = .ok (.ifCond .lt 33, 3) := by decide +kernel
theorem dL_law_862 : decode cL_law 862 = .ok (.aload_n 1, 1) := by decide +kernel
theorem dL_law_863 : decode cL_law 863 = .ok (.bipush 6, 2) := by decide +kernel
theorem dL_law_865 : decode cL_law 865 = .ok (.invokevirtual 104, 3) := by decide +kernel
theorem dL_law_868 : decode cL_law 868 = .ok (.iload 16, 2) := by decide +kernel
theorem dL_law_870 : decode cL_law 870 = .ok (.iconst 1, 1) := by decide +kernel
theorem dL_law_871 : decode cL_law 871 = .ok (.isub, 1) := by decide +kernel
theorem dL_law_872 : decode cL_law 872 = .ok (.if_icmp .ne 16, 3) := by decide +kernel
theorem dL_law_875 : decode cL_law 875 = .ok (.iload 17, 2) := by decide +kernel
theorem dL_law_877 : decode cL_law 877 = .ok (.iload 16, 2) := by decide +kernel
theorem dL_law_879 : decode cL_law 879 = .ok (.iconst 1, 1) := by decide +kernel
theorem dL_law_880 : decode cL_law 880 = .ok (.isub, 1) := by decide +kernel
theorem dL_law_881 : decode cL_law 881 = .ok (.if_icmp .gt 7, 3) := by decide +kernel
theorem dL_law_884 : decode cL_law 884 = .ok (.iconst 1, 1) := by decide +kernel
theorem dL_law_885 : decode cL_law 885 = .ok (.goto 30, 3) := by decide +kernel
theorem dL_law_888 : decode cL_law 888 = .ok (.iconst 0, 1) := by decide +kernel
theorem dL_law_889 : decode cL_law 889 = .ok (.goto 26, 3) := by decide +kernel
theorem dL_law_892 : decode cL_law 892 = .ok (.iload 17, 2) := by decide +kernel
theorem dL_law_894 : decode cL_law 894 = .ok (.ldc 56, 2) := by decide +kernel
theorem dL_law_896 : decode cL_law 896 = .ok (.if_icmp .ne 18, 3) := by decide +kernel
theorem dL_law_899 : decode cL_law 899 = .ok (.aload_n 1, 1) := by decide +kernel
theorem dL_law_900 : decode cL_law 900 = .ok (.bipush 6, 2) := by decide +kernel
theorem dL_law_902 : decode cL_law 902 = .ok (.invokevirtual 104, 3) := by decide +kernel
theorem dL_law_905 : decode cL_law 905 = .ok (.iload 16, 2) := by decide +kernel
theorem dL_law_907 : decode cL_law 907 = .ok (.if_icmp .ne 7, 3) := by decide +kernel
theorem dL_law_910 : decode cL_law 910 = .ok (.iconst 1, 1) := by decide +kernel
theorem dL_law_911 : decode cL_law 911 = .ok (.goto 4, 3) := by decide +kernel
theorem dL_law_914 : decode cL_law 914 = .ok (.iconst 0, 1) := by decide +kernel
theorem dL_law_915 : decode cL_law 915 = .ok (.istore 9, 2) := by decide +kernel
theorem dL_law_917 : decode cL_law 917 = .ok (.goto 351, 3) := by decide +kernel
theorem dL_law_920 : decode cL_law 920 = .ok (.iload 13, 2) := by decide +kernel
theorem dL_law_922 : decode cL_law 922 = .ok (.bipush 25, 2) := by decide +kernel
theorem dL_law_924 : decode cL_law 924 = .ok (.if_icmp .ge 112, 3) := by decide +kernel
theorem dL_law_927 : decode cL_law 927 = .ok (.iload 12, 2) := by decide +kernel
theorem dL_law_929 : decode cL_law 929 = .ok (.iconst 2, 1) := by decide +kernel
theorem dL_law_930 : decode cL_law 930 = .ok (.ishr, 1) := by decide +kernel
theorem dL_law_931 : decode cL_law 931 = .ok (.aload 4, 2) := by decide +kernel
theorem dL_law_933 : decode cL_law 933 = .ok (.iload 15, 2) := by decide +kernel
theorem dL_law_935 : decode cL_law 935 = .ok (.iaload, 1) := by decide +kernel
theorem dL_law_936 : decode cL_law 936 = .ok (.irem, 1) := by decide +kernel
theorem dL_law_937 : decode cL_law 937 = .ok (.istore 16, 2) := by decide +kernel
theorem dL_law_939 : decode cL_law 939 = .ok (.aload_n 1, 1) := by decide +kernel
theorem dL_law_940 : decode cL_law 940 = .ok (.iload 15, 2) := by decide +kernel
theorem dL_law_942 : decode cL_law 942 = .ok (.iload 16, 2) := by decide +kernel
theorem dL_law_944 : decode cL_law 944 = .ok (.iconst 5, 1) := by decide +kernel
theorem dL_law_945 : decode cL_law 945 = .ok (.invokevirtual 63, 3) := by decide +kernel
theorem dL_law_948 : decode cL_law 948 = .ok (.istore 17, 2) := by decide +kernel
theorem dL_law_950 : decode cL_law 950 = .ok (.aload_n 1, 1) := by decide +kernel
theorem dL_law_951 : decode cL_law 951 = .ok (.iconst 5, 1) := by decide +kernel
theorem dL_law_952 : decode cL_law 952 = .ok (.invokevirtual 104, 3) := by decide +kernel
theorem dL_law_955 : decode cL_law 955 = .ok (.istore 18, 2) := by decide +kernel
theorem dL_law_957 : decode cL_law 957 = .ok (.aload_n 1, 1) := by decide +kernel
theorem dL_law_958 : decode cL_law 958 = .ok (.iload 15, 2) := by decide +kernel
theorem dL_law_960 : decode cL_law 960 = .ok (.iload 16, 2) := by decide +kernel
theorem dL_law_962 : decode cL_law 962 = .ok (.iconst 2, 1) := by decide +kernel
theorem dL_law_963 : decode cL_law 963 = .ok (.invokevirtual 63, 3) := by decide +kernel
theorem dL_law_966 : decode cL_law 966 = .ok (.istore 19, 2) := by decide +kernel
theorem dL_law_968 : decode cL_law 968 = .ok (.aload_n 1, 1) := by decide +kernel
theorem dL_law_969 : decode cL_law 969 = .ok (.bipush 8, 2) := by decide +kernel
theorem dL_law_971 : decode cL_law 971 = .ok (.iload 15, 2) := by decide +kernel
theorem dL_law_973 : decode cL_law 973 = .ok (.iload 16, 2) := by decide +kernel
theorem dL_law_975 : decode cL_law 975 = .ok (.iconst 0, 1) := by decide +kernel
theorem dL_law_976 : decode cL_law 976 = .ok (.iconst 0, 1) := by decide +kernel
theorem dL_law_977 : decode cL_law 977 = .ok (.iconst 0, 1) := by decide +kernel
theorem dL_law_978 : decode cL_law 978 = .ok (.invokestatic 94, 3) := by decide +kernel
theorem dL_law_981 : decode cL_law 981 = .ok (.iload 19, 2) := by decide +kernel
theorem dL_law_983 : decode cL_law 983 = .ok (.if_icmp .ne 47, 3) := by decide +kernel
theorem dL_law_986 : decode cL_law 986 = .ok (.aload_n 1, 1) := by decide +kernel
theorem dL_law_987 : decode cL_law 987 = .ok (.iload 15, 2) := by decide +kernel
theorem dL_law_989 : decode cL_law 989 = .ok (.iload 16, 2) := by decide +kernel
theorem dL_law_991 : decode cL_law 991 = .ok (.iconst 2, 1) := by decide +kernel
theorem dL_law_992 : decode cL_law 992 = .ok (.invokevirtual 63, 3) := by decide +kernel
theorem dL_law_995 : decode cL_law 995 = .ok (.ifCond .ne 35, 3) := by decide +kernel
theorem dL_law_998 : decode cL_law 998 = .ok (.aload_n 1, 1) := by decide +kernel
theorem dL_law_999 : decode cL_law 999 = .ok (.iload 15, 2) := by decide +kernel
theorem dL_law_1001 : decode cL_law 1001 = .ok (.iload 16, 2) := by decide +kernel
theorem dL_law_1003 : decode cL_law 1003 = .ok (.iconst 5, 1) := by decide +kernel
theorem dL_law_1004 : decode cL_law 1004 = .ok (.invokevirtual 63, 3) := by decide +kernel
theorem dL_law_1007 : decode cL_law 1007 = .ok (.iload 17, 2) := by decide +kernel
theorem dL_law_1009 : decode cL_law 1009 = .ok (.iconst 1, 1) := by decide +kernel
theorem dL_law_1010 : decode cL_law 1010 = .ok (.iadd, 1) := by decide +kernel
theorem dL_law_1011 : decode cL_law 1011 = .ok (.if_icmp .ne 19, 3) := by decide +kernel
theorem dL_law_1014 : decode cL_law 1014 = .ok (.aload_n 1, 1) := by decide +kernel
theorem dL_law_1015 : decode cL_law 1015 = .ok (.iconst 5, 1) := by decide +kernel
theorem dL_law_1016 : decode cL_law 1016 = .ok (.invokevirtual 104, 3) := by decide +kernel
theorem dL_law_1019 : decode cL_law 1019 = .ok (.iload 18, 2) := by decide +kernel
theorem dL_law_1021 : decode cL_law 1021 = .ok (.iconst 1, 1) := by decide +kernel
theorem dL_law_1022 : decode cL_law 1022 = .ok (.iadd, 1) := by decide +kernel
theorem dL_law_1023 : decode cL_law 1023 = .ok (.if_icmp .ne 7, 3) := by decide +kernel
theorem dL_law_1026 : decode cL_law 1026 = .ok (.iconst 1, 1) := by decide +kernel
theorem dL_law_1027 : decode cL_law 1027 = .ok (.goto 4, 3) := by decide +kernel
theorem dL_law_1030 : decode cL_law 1030 = .ok (.iconst 0, 1) := by decide +kernel
theorem dL_law_1031 : decode cL_law 1031 = .ok (.istore 9, 2) := by decide +kernel
theorem dL_law_1033 : decode cL_law 1033 = .ok (.goto 235, 3) := by decide +kernel
theorem dL_law_1036 : decode cL_law 1036 = .ok (.iload 8, 2) := by decide +kernel
theorem dL_law_1038 : decode cL_law 1038 = .ok (.bipush 30, 2) := by decide +kernel
theorem dL_law_1040 : decode cL_law 1040 = .ok (.if_icmp .ge 228, 3) := by decide +kernel
theorem dL_law_1043 : decode cL_law 1043 = .ok (.iinc 8 1, 3) := by decide +kernel
theorem dL_law_1046 : decode cL_law 1046 = .ok (.aload_n 1, 1) := by decide +kernel
theorem dL_law_1047 : decode cL_law 1047 = .ok (.iload 15, 2) := by decide +kernel
theorem dL_law_1049 : decode cL_law 1049 = .ok (.aload 4, 2) := by decide +kernel
theorem dL_law_1051 : decode cL_law 1051 = .ok (.iload 15, 2) := by decide +kernel
theorem dL_law_1053 : decode cL_law 1053 = .ok (.iaload, 1) := by decide +kernel
theorem dL_law_1054 : decode cL_law 1054 = .ok (.iload 7, 2) := by decide +kernel
theorem dL_law_1056 : decode cL_law 1056 = .ok (.invokestatic 107, 3) := by decide +kernel
theorem dL_law_1059 : decode cL_law 1059 = .ok (.istore 9, 2) := by decide +kernel
theorem dL_law_1061 : decode cL_law 1061 = .ok (.iload 9, 2) := by decide +kernel
theorem dL_law_1063 : decode cL_law 1063 = .ok (.ifCond .eq 99, 3) := by decide +kernel
theorem dL_law_1066 : decode cL_law 1066 = .ok (.iload 12, 2) := by decide +kernel
theorem dL_law_1068 : decode cL_law 1068 = .ok (.iconst 3, 1) := by decide +kernel
theorem dL_law_1069 : decode cL_law 1069 = .ok (.iand, 1) := by decide +kernel
theorem dL_law_1070 : decode cL_law 1070 = .ok (.ifCond .le 92, 3) := by decide +kernel
theorem dL_law_1073 : decode cL_law 1073 = .ok (.aload_n 1, 1) := by decide +kernel
theorem dL_law_1074 : decode cL_law 1074 = .ok (.iconst 5, 1) := by decide +kernel
theorem dL_law_1075 : decode cL_law 1075 = .ok (.invokevirtual 104, 3) := by decide +kernel
theorem dL_law_1078 : decode cL_law 1078 = .ok (.istore 16, 2) := by decide +kernel
theorem dL_law_1080 : decode cL_law 1080 = .ok (.aload_n 1, 1) := by decide +kernel
theorem dL_law_1081 : decode cL_law 1081 = .ok (.iload 15, 2) := by decide +kernel
theorem dL_law_1083 : decode cL_law 1083 = .ok (.invokevirtual 75, 3) := by decide +kernel
theorem dL_law_1086 : decode cL_law 1086 = .ok (.istore 17, 2) := by decide +kernel
theorem dL_law_1088 : decode cL_law 1088 = .ok (.aload_n 1, 1) := by decide +kernel
theorem dL_law_1089 : decode cL_law 1089 = .ok (.iload 15, 2) := by decide +kernel
theorem dL_law_1091 : decode cL_law 1091 = .ok (.invokevirtual 111, 3) := by decide +kernel
theorem dL_law_1094 : decode cL_law 1094 = .ok (.iload 17, 2) := by decide +kernel
theorem dL_law_1096 : decode cL_law 1096 = .ok (.if_icmp .ne 63, 3) := by decide +kernel
theorem dL_law_1099 : decode cL_law 1099 = .ok (.aload_n 1, 1) := by decide +kernel
theorem dL_law_1100 : decode cL_law 1100 = .ok (.iload 15, 2) := by decide +kernel
theorem dL_law_1102 : decode cL_law 1102 = .ok (.invokevirtual 75, 3) := by decide +kernel
theorem dL_law_1105 : decode cL_law 1105 = .ok (.ifCond .ne 54, 3) := by decide +kernel
theorem dL_law_1108 : decode cL_law 1108 = .ok (.aload_n 1, 1) := by decide +kernel
theorem dL_law_1109 : decode cL_law 1109 = .ok (.iload 15, 2) := by decide +kernel
theorem dL_law_1111 : decode cL_law 1111 = .ok (.invokevirtual 78, 3) := by decide +kernel
theorem dL_law_1114 : decode cL_law 1114 = .ok (.ifCond .ne 45, 3) := by decide +kernel
theorem dL_law_1117 : decode cL_law 1117 = .ok (.aload_n 1, 1) := by decide +kernel
theorem dL_law_1118 : decode cL_law 1118 = .ok (.iload 15, 2) := by decide +kernel
theorem dL_law_1120 : decode cL_law 1120 = .ok (.invokevirtual 111, 3) := by decide +kernel
theorem dL_law_1123 : decode cL_law 1123 = .ok (.ifCond .ne 36, 3) := by decide +kernel
theorem dL_law_1126 : decode cL_law 1126 = .ok (.aload_n 1, 1) := by decide +kernel
theorem dL_law_1127 : decode cL_law 1127 = .ok (.iconst 5, 1) := by decide +kernel
theorem dL_law_1128 : decode cL_law 1128 = .ok (.invokevirtual 104, 3) := by decide +kernel
theorem dL_law_1131 : decode cL_law 1131 = .ok (.iload 16, 2) := by decide +kernel
theorem dL_law_1133 : decode cL_law 1133 = .ok (.iload 17, 2) := by decide +kernel
theorem dL_law_1135 : decode cL_law 1135 = .ok (.iadd, 1) := by decide +kernel
theorem dL_law_1136 : decode cL_law 1136 = .ok (.if_icmp .ne 23, 3) := by decide +kernel
theorem dL_law_1139 : decode cL_law 1139 = .ok (.aload_n 1, 1) := by decide +kernel
theorem dL_law_1140 : decode cL_law 1140 = .ok (.iload 15, 2) := by decide +kernel
theorem dL_law_1142 : decode cL_law 1142 = .ok (.aload 4, 2) := by decide +kernel
theorem dL_law_1144 : decode cL_law 1144 = .ok (.iload 15, 2) := by decide +kernel
theorem dL_law_1146 : decode cL_law 1146 = .ok (.iaload, 1) := by decide +kernel
theorem dL_law_1147 : decode cL_law 1147 = .ok (.iload 7, 2) := by decide +kernel
theorem dL_law_1149 : decode cL_law 1149 = .ok (.invokestatic 107, 3) := by decide +kernel
theorem dL_law_1152 : decode cL_law 1152 = .ok (.ifCond .eq 7, 3) := by decide +kernel
theorem dL_law_1155 : decode cL_law 1155 = .ok (.iconst 1, 1) := by decide +kernel
theorem dL_law_1156 : decode cL_law 1156 = .ok (.goto 4, 3) := by decide +kernel
theorem dL_law_1159 : decode cL_law 1159 = .ok (.iconst 0, 1) := by decide +kernel
theorem dL_law_1160 : decode cL_law 1160 = .ok (.istore 9, 2) := by decide +kernel
theorem dL_law_1162 : decode cL_law 1162 = .ok (.aload 5, 2) := by decide +kernel
theorem dL_law_1164 : decode cL_law 1164 = .ok (.iload 14, 2) := by decide +kernel
theorem dL_law_1166 : decode cL_law 1166 = .ok (.iaload, 1) := by decide +kernel
theorem dL_law_1167 : decode cL_law 1167 = .ok (.ifCond .ne 7, 3) := by decide +kernel
theorem dL_law_1170 : decode cL_law 1170 = .ok (.iconst (-1), 1) := by decide +kernel
theorem dL_law_1171 : decode cL_law 1171 = .ok (.goto 13, 3) := by decide +kernel
theorem dL_law_1174 : decode cL_law 1174 = .ok (.iload 12, 2) := by decide +kernel
theorem dL_law_1176 : decode cL_law 1176 = .ok (.iconst 3, 1) := by decide +kernel
theorem dL_law_1177 : decode cL_law 1177 = .ok (.ishr, 1) := by decide +kernel
theorem dL_law_1178 : decode cL_law 1178 = .ok (.aload 5, 2) := by decide +kernel
theorem dL_law_1180 : decode cL_law 1180 = .ok (.iload 14, 2) := by decide +kernel
theorem dL_law_1182 : decode cL_law 1182 = .ok (.iaload, 1) := by decide +kernel
theorem dL_law_1183 : decode cL_law 1183 = .ok (.irem, 1) := by decide +kernel
theorem dL_law_1184 : decode cL_law 1184 = .ok (.istore 16, 2) := by decide +kernel
theorem dL_law_1186 : decode cL_law 1186 = .ok (.iload 9, 2) := by decide +kernel
theorem dL_law_1188 : decode cL_law 1188 = .ok (.ifCond .eq 77, 3) := by decide +kernel
theorem dL_law_1191 : decode cL_law 1191 = .ok (.iload 16, 2) := by decide +kernel
theorem dL_law_1193 : decode cL_law 1193 = .ok (.ifCond .lt 34, 3) := by decide +kernel
theorem dL_law_1196 : decode cL_law 1196 = .ok (.aload_n 1, 1) := by decide +kernel
theorem dL_law_1197 : decode cL_law 1197 = .ok (.iload 14, 2) := by decide +kernel
theorem dL_law_1199 : decode cL_law 1199 = .ok (.iload 16, 2) := by decide +kernel
theorem dL_law_1201 : decode cL_law 1201 = .ok (.aload_n 3, 1) := by decide +kernel
theorem dL_law_1202 : decode cL_law 1202 = .ok (.bipush 12, 2) := by decide +kernel
theorem dL_law_1204 : decode cL_law 1204 = .ok (.iload 14, 2) := by decide +kernel
theorem dL_law_1206 : decode cL_law 1206 = .ok (.imul, 1) := by decide +kernel
theorem dL_law_1207 : decode cL_law 1207 = .ok (.iload 16, 2) := by decide +kernel
theorem dL_law_1209 : decode cL_law 1209 = .ok (.iadd, 1) := by decide +kernel
theorem dL_law_1210 : decode cL_law 1210 = .ok (.iaload, 1) := by decide +kernel
theorem dL_law_1211 : decode cL_law 1211 = .ok (.invokestatic 100, 3) := by decide +kernel
theorem dL_law_1214 : decode cL_law 1214 = .ok (.aload_n 2, 1) := by decide +kernel
theorem dL_law_1215 : decode cL_law 1215 = .ok (.bipush 12, 2) := by decide +kernel
theorem dL_law_1217 : decode cL_law 1217 = .ok (.iload 14, 2) := by decide +kernel
theorem dL_law_1219 : decode cL_law 1219 = .ok (.imul, 1) := by decide +kernel
theorem dL_law_1220 : decode cL_law 1220 = .ok (.iload 16, 2) := by decide +kernel
theorem dL_law_1222 : decode cL_law 1222 = .ok (.iadd, 1) := by decide +kernel
theorem dL_law_1223 : decode cL_law 1223 = .ok (.iaload, 1) := by decide +kernel
theorem dL_law_1224 : decode cL_law 1224 = .ok (.if_icmp .ne 41, 3) := by decide +kernel
theorem dL_law_1227 : decode cL_law 1227 = .ok (.aload_n 1, 1) := by decide +kernel
theorem dL_law_1228 : decode cL_law 1228 = .ok (.iconst 1, 1) := by decide +kernel
theorem dL_law_1229 : decode cL_law 1229 = .ok (.invokevirtual 104, 3) := by decide +kernel
theorem dL_law_1232 : decode cL_law 1232 = .ok (.aload 5, 2) := by decide +kernel
theorem dL_law_1234 : decode cL_law 1234 = .ok (.iconst 0, 1) := by decide +kernel
theorem dL_law_1235 : decode cL_law 1235 = .ok (.iaload, 1) := by decide +kernel
theorem dL_law_1236 : decode cL_law 1236 = .ok (.aload 5, 2) := by decide +kernel
theorem dL_law_1238 : decode cL_law 1238 = .ok (.iconst 1, 1) := by decide +kernel
theorem dL_law_1239 : decode cL_law 1239 = .ok (.iaload, 1) := by decide +kernel
theorem dL_law_1240 : decode cL_law 1240 = .ok (.iadd, 1) := by decide +kernel
theorem dL_law_1241 : decode cL_law 1241 = .ok (.if_icmp .ne 24, 3) := by decide +kernel
theorem dL_law_1244 : decode cL_law 1244 = .ok (.aload_n 1, 1) := by decide +kernel
theorem dL_law_1245 : decode cL_law 1245 = .ok (.iconst 3, 1) := by decide +kernel
theorem dL_law_1246 : decode cL_law 1246 = .ok (.invokevirtual 104, 3) := by decide +kernel
theorem dL_law_1249 : decode cL_law 1249 = .ok (.aload 4, 2) := by decide +kernel
theorem dL_law_1251 : decode cL_law 1251 = .ok (.iconst 0, 1) := by decide +kernel
theorem dL_law_1252 : decode cL_law 1252 = .ok (.iaload, 1) := by decide +kernel
theorem dL_law_1253 : decode cL_law 1253 = .ok (.aload 4, 2) := by decide +kernel
theorem dL_law_1255 : decode cL_law 1255 = .ok (.iconst 1, 1) := by decide +kernel
theorem dL_law_1256 : decode cL_law 1256 = .ok (.iaload, 1) := by decide +kernel
theorem dL_law_1257 : decode cL_law 1257 = .ok (.iadd, 1) := by decide +kernel
theorem dL_law_1258 : decode cL_law 1258 = .ok (.if_icmp .ne 7, 3) := by decide +kernel
theorem dL_law_1261 : decode cL_law 1261 = .ok (.iconst 1, 1) := by decide +kernel
theorem dL_law_1262 : decode cL_law 1262 = .ok (.goto 4, 3) := by decide +kernel
theorem dL_law_1265 : decode cL_law 1265 = .ok (.iconst 0, 1) := by decide +kernel
theorem dL_law_1266 : decode cL_law 1266 = .ok (.istore 9, 2) := by decide +kernel
theorem dL_law_1268 : decode cL_law 1268 = .ok (.iinc 11 1, 3) := by decide +kernel
theorem dL_law_1271 : decode cL_law 1271 = .ok (.goto (-1144), 3) := by decide +kernel
theorem dL_law_1274 : decode cL_law 1274 = .ok (.iload 9, 2) := by decide +kernel
theorem dL_law_1276 : decode cL_law 1276 = .ok (.ireturn, 1) := by decide +kernel
abbrev vwCl : List vw_C := [(RX0, TX0, 3), (RX1, TX1, 3), (RX2, TX2, 4), (RX3, TX3, 3), (RX4, TX4, 4), (RX5, TX5, 4), (RX6, TX6, 4), (RX7, TX7, 7)]
