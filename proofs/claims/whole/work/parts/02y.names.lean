/-! ===== BEGIN printed: names, fields, word lists, decode rows ===== -/
def RX0 : String := "PegbarBarn$Asset"
def TX0 : u_T := fun k => match k with
  | 0 => ("PegbarBarn$Asset", "draft", "LPegbarBarn$Rig;", true)
  | 1 => ("PegbarBarn$Asset", "versions", "[LPegbarBarn$Rig;", true)
  | _ => ("PegbarBarn$Asset", "versionCount", "I", false)
def tyX0 : Nat → FieldType := fun k => match k with
  | 0 => .object "PegbarBarn$Rig"
  | 1 => .array (.object "PegbarBarn$Rig")
  | _ => .int
abbrev wsX00 : List Cond := u_ws RX0 TX0 3
theorem nmX0 : ∀ a, a < 3 → ∀ b, b < 3 → a ≠ b → (TX0 a).2.1 ≠ (TX0 b).2.1 := by decide +kernel
theorem tyX0_ok : ∀ k, k < 3 → parseFieldDescriptor (TX0 k).2.2.1 = some (tyX0 k) := by decide +kernel
abbrev cX0_init : ByteArray := prog_2_method_1_code
def yX0_init : MethodName := ⟨RX0, "<init>", "()V"⟩
abbrev cX0_addVersion : ByteArray := prog_2_method_2_code
def yX0_addVersion : MethodName := ⟨RX0, "addVersion", "()I"⟩
abbrev cX0_versionAt : ByteArray := prog_2_method_3_code
def yX0_versionAt : MethodName := ⟨RX0, "versionAt", "(I)LPegbarBarn$Rig;"⟩
abbrev cX0_looksAlike : ByteArray := prog_2_method_4_code
def yX0_looksAlike : MethodName := ⟨RX0, "looksAlike", "(III)Z"⟩
def RX1 : String := "PegbarBarn$Casting"
def TX1 : u_T := fun k => match k with
  | 0 => ("PegbarBarn$Casting", "version", "I", false)
  | 1 => ("PegbarBarn$Casting", "from", "I", false)
  | _ => ("PegbarBarn$Casting", "to", "I", false)
def tyX1 : Nat → FieldType := fun k => match k with
  | 0 => .int
  | 1 => .int
  | _ => .int
abbrev wsX10 : List Cond := u_ws RX1 TX1 3
theorem nmX1 : ∀ a, a < 3 → ∀ b, b < 3 → a ≠ b → (TX1 a).2.1 ≠ (TX1 b).2.1 := by decide +kernel
theorem tyX1_ok : ∀ k, k < 3 → parseFieldDescriptor (TX1 k).2.2.1 = some (tyX1 k) := by decide +kernel
abbrev cX1_init : ByteArray := prog_3_method_1_code
def yX1_init : MethodName := ⟨RX1, "<init>", "()V"⟩
abbrev cX1_covers : ByteArray := prog_3_method_2_code
def yX1_covers : MethodName := ⟨RX1, "covers", "(I)Z"⟩
def RX2 : String := "PegbarBarn$Curve"
def TX2 : u_T := fun k => match k with
  | 0 => ("PegbarBarn$Curve", "frames", "[I", true)
  | 1 => ("PegbarBarn$Curve", "values", "[I", true)
  | 2 => ("PegbarBarn$Curve", "ways", "[I", true)
  | _ => ("PegbarBarn$Curve", "size", "I", false)
def tyX2 : Nat → FieldType := fun k => match k with
  | 0 => .array .int
  | 1 => .array .int
  | 2 => .array .int
  | _ => .int
abbrev wsX20 : List Cond := u_ws RX2 TX2 4
theorem nmX2 : ∀ a, a < 4 → ∀ b, b < 4 → a ≠ b → (TX2 a).2.1 ≠ (TX2 b).2.1 := by decide +kernel
theorem tyX2_ok : ∀ k, k < 4 → parseFieldDescriptor (TX2 k).2.2.1 = some (tyX2 k) := by decide +kernel
abbrev cX2_init : ByteArray := prog_4_method_1_code
def yX2_init : MethodName := ⟨RX2, "<init>", "()V"⟩
abbrev cX2_keysAhead : ByteArray := prog_4_method_2_code
def yX2_keysAhead : MethodName := ⟨RX2, "keysAhead", "(I)I"⟩
abbrev cX2_standsAt : ByteArray := prog_4_method_3_code
def yX2_standsAt : MethodName := ⟨RX2, "standsAt", "(II)Z"⟩
abbrev cX2_hasRoomFor : ByteArray := prog_4_method_4_code
def yX2_hasRoomFor : MethodName := ⟨RX2, "hasRoomFor", "(I)Z"⟩
abbrev cX2_put : ByteArray := prog_4_method_5_code
def yX2_put : MethodName := ⟨RX2, "put", "(III)V"⟩
abbrev cX2_take : ByteArray := prog_4_method_6_code
def yX2_take : MethodName := ⟨RX2, "take", "(I)Z"⟩
abbrev cX2_moveKey : ByteArray := prog_4_method_7_code
def yX2_moveKey : MethodName := ⟨RX2, "moveKey", "(II)V"⟩
abbrev cX2_valueAt : ByteArray := prog_4_method_8_code
def yX2_valueAt : MethodName := ⟨RX2, "valueAt", "(I)I"⟩
abbrev cX2_valueAhead : ByteArray := prog_4_method_9_code
def yX2_valueAhead : MethodName := ⟨RX2, "valueAhead", "(II)I"⟩
abbrev cX2_copy : ByteArray := prog_4_method_10_code
def yX2_copy : MethodName := ⟨RX2, "copy", "()LPegbarBarn$Curve;"⟩
def RX3 : String := "PegbarBarn$Frame"
def TX3 : u_T := fun k => match k with
  | 0 => ("PegbarBarn$Frame", "shown", "I", true)
  | 1 => ("PegbarBarn$Frame", "versions", "[I", true)
  | _ => ("PegbarBarn$Frame", "times", "I", false)
def tyX3 : Nat → FieldType := fun k => match k with
  | 0 => .int
  | 1 => .array .int
  | _ => .int
abbrev wsX30 : List Cond := u_ws RX3 TX3 3
theorem nmX3 : ∀ a, a < 3 → ∀ b, b < 3 → a ≠ b → (TX3 a).2.1 ≠ (TX3 b).2.1 := by decide +kernel
theorem tyX3_ok : ∀ k, k < 3 → parseFieldDescriptor (TX3 k).2.2.1 = some (tyX3 k) := by decide +kernel
abbrev cX3_init : ByteArray := prog_5_method_1_code
def yX3_init : MethodName := ⟨RX3, "<init>", "(I)V"⟩
abbrev cX3_versionOf : ByteArray := prog_5_method_2_code
def yX3_versionOf : MethodName := ⟨RX3, "versionOf", "(I)I"⟩
abbrev cX3_keepVersion : ByteArray := prog_5_method_3_code
def yX3_keepVersion : MethodName := ⟨RX3, "keepVersion", "(II)V"⟩
def RX4 : String := "PegbarBarn$Note"
def TX4 : u_T := fun k => match k with
  | 0 => ("PegbarBarn$Note", "scene", "I", true)
  | 1 => ("PegbarBarn$Note", "frame", "I", false)
  | 2 => ("PegbarBarn$Note", "carried", "I", false)
  | _ => ("PegbarBarn$Note", "settled", "Z", false)
def tyX4 : Nat → FieldType := fun k => match k with
  | 0 => .int
  | 1 => .int
  | 2 => .int
  | _ => .boolean
abbrev wsX40 : List Cond := u_ws RX4 TX4 4
theorem nmX4 : ∀ a, a < 4 → ∀ b, b < 4 → a ≠ b → (TX4 a).2.1 ≠ (TX4 b).2.1 := by decide +kernel
theorem tyX4_ok : ∀ k, k < 4 → parseFieldDescriptor (TX4 k).2.2.1 = some (tyX4 k) := by decide +kernel
abbrev cX4_init : ByteArray := prog_6_method_1_code
def yX4_init : MethodName := ⟨RX4, "<init>", "(II)V"⟩
abbrev cX4_followCut : ByteArray := prog_6_method_2_code
def yX4_followCut : MethodName := ⟨RX4, "followCut", "(III)V"⟩
def RX5 : String := "PegbarBarn$Rig"
def TX5 : u_T := fun k => match k with
  | 0 => ("PegbarBarn$Rig", "parents", "[I", true)
  | 1 => ("PegbarBarn$Rig", "curves", "[LPegbarBarn$Curve;", true)
  | 2 => ("PegbarBarn$Rig", "size", "I", false)
  | _ => ("PegbarBarn$Rig", "poses", "[I", false)
def tyX5 : Nat → FieldType := fun k => match k with
  | 0 => .array .int
  | 1 => .array (.object "PegbarBarn$Curve")
  | 2 => .int
  | _ => .array .int
abbrev wsX50 : List Cond := u_ws RX5 TX5 4
theorem nmX5 : ∀ a, a < 4 → ∀ b, b < 4 → a ≠ b → (TX5 a).2.1 ≠ (TX5 b).2.1 := by decide +kernel
theorem tyX5_ok : ∀ k, k < 4 → parseFieldDescriptor (TX5 k).2.2.1 = some (tyX5 k) := by decide +kernel
abbrev cX5_init : ByteArray := prog_7_method_1_code
def yX5_init : MethodName := ⟨RX5, "<init>", "()V"⟩
abbrev cX5_hasBone : ByteArray := prog_7_method_2_code
def yX5_hasBone : MethodName := ⟨RX5, "hasBone", "(I)Z"⟩
abbrev cX5_curveOf : ByteArray := prog_7_method_3_code
def yX5_curveOf : MethodName := ⟨RX5, "curveOf", "(I)LPegbarBarn$Curve;"⟩
abbrev cX5_addBone : ByteArray := prog_7_method_4_code
def yX5_addBone : MethodName := ⟨RX5, "addBone", "(I)I"⟩
abbrev cX5_append : ByteArray := prog_7_method_5_code
def yX5_append : MethodName := ⟨RX5, "append", "(ILPegbarBarn$Curve;)I"⟩
abbrev cX5_ownValue : ByteArray := prog_7_method_6_code
def yX5_ownValue : MethodName := ⟨RX5, "ownValue", "(II)I"⟩
abbrev cX5_poseUpwards : ByteArray := prog_7_method_7_code
def yX5_poseUpwards : MethodName := ⟨RX5, "poseUpwards", "(II)I"⟩
abbrev cX5_poseAt : ByteArray := prog_7_method_8_code
def yX5_poseAt : MethodName := ⟨RX5, "poseAt", "(II)I"⟩
abbrev cX5_looksLike : ByteArray := prog_7_method_9_code
def yX5_looksLike : MethodName := ⟨RX5, "looksLike", "(LPegbarBarn$Rig;I)Z"⟩
abbrev cX5_versionOfIt : ByteArray := prog_7_method_10_code
def yX5_versionOfIt : MethodName := ⟨RX5, "versionOfIt", "()LPegbarBarn$Rig;"⟩
abbrev cX5_fixPoses : ByteArray := prog_7_method_11_code
def yX5_fixPoses : MethodName := ⟨RX5, "fixPoses", "()V"⟩
def RX6 : String := "PegbarBarn$Scene"
def TX6 : u_T := fun k => match k with
  | 0 => ("PegbarBarn$Scene", "frames", "[LPegbarBarn$Frame;", true)
  | 1 => ("PegbarBarn$Scene", "castings", "[LPegbarBarn$Casting;", true)
  | 2 => ("PegbarBarn$Scene", "size", "I", false)
  | _ => ("PegbarBarn$Scene", "castCount", "I", false)
def tyX6 : Nat → FieldType := fun k => match k with
  | 0 => .array (.object "PegbarBarn$Frame")
  | 1 => .array (.object "PegbarBarn$Casting")
  | 2 => .int
  | _ => .int
abbrev wsX60 : List Cond := u_ws RX6 TX6 4
theorem nmX6 : ∀ a, a < 4 → ∀ b, b < 4 → a ≠ b → (TX6 a).2.1 ≠ (TX6 b).2.1 := by decide +kernel
theorem tyX6_ok : ∀ k, k < 4 → parseFieldDescriptor (TX6 k).2.2.1 = some (tyX6 k) := by decide +kernel
abbrev cX6_init : ByteArray := prog_8_method_1_code
def yX6_init : MethodName := ⟨RX6, "<init>", "(I)V"⟩
abbrev cX6_hasFrame : ByteArray := prog_8_method_2_code
def yX6_hasFrame : MethodName := ⟨RX6, "hasFrame", "(I)Z"⟩
abbrev cX6_frameAt : ByteArray := prog_8_method_3_code
def yX6_frameAt : MethodName := ⟨RX6, "frameAt", "(I)LPegbarBarn$Frame;"⟩
abbrev cX6_castingOf : ByteArray := prog_8_method_4_code
def yX6_castingOf : MethodName := ⟨RX6, "castingOf", "(I)LPegbarBarn$Casting;"⟩
abbrev cX6_setCasting : ByteArray := prog_8_method_5_code
def yX6_setCasting : MethodName := ⟨RX6, "setCasting", "(IIII)V"⟩
abbrev cX6_removeFrames : ByteArray := prog_8_method_6_code
def yX6_removeFrames : MethodName := ⟨RX6, "removeFrames", "(II)V"⟩
abbrev cX6_follows : ByteArray := prog_8_method_7_code
def yX6_follows : MethodName := ⟨RX6, "follows", "(I)Z"⟩
abbrev cX6_keepsUnlikeVersions : ByteArray := prog_8_method_8_code
def yX6_keepsUnlikeVersions : MethodName := ⟨RX6, "keepsUnlikeVersions", "(I)Z"⟩
def RX7 : String := "PegbarBarn"
def TX7 : u_T := fun k => match k with
  | 0 => ("PegbarBarn", "assets", "[LPegbarBarn$Asset;", true)
  | 1 => ("PegbarBarn", "scenes", "[LPegbarBarn$Scene;", true)
  | 2 => ("PegbarBarn", "notes", "[LPegbarBarn$Note;", true)
  | 3 => ("PegbarBarn", "assetCount", "I", false)
  | 4 => ("PegbarBarn", "sceneCount", "I", false)
  | 5 => ("PegbarBarn", "noteCount", "I", false)
  | _ => ("PegbarBarn", "renderings", "I", false)
def tyX7 : Nat → FieldType := fun k => match k with
  | 0 => .array (.object "PegbarBarn$Asset")
  | 1 => .array (.object "PegbarBarn$Scene")
  | 2 => .array (.object "PegbarBarn$Note")
  | 3 => .int
  | 4 => .int
  | 5 => .int
  | _ => .int
abbrev wsX70 : List Cond := u_ws RX7 TX7 7
theorem nmX7 : ∀ a, a < 7 → ∀ b, b < 7 → a ≠ b → (TX7 a).2.1 ≠ (TX7 b).2.1 := by decide +kernel
theorem tyX7_ok : ∀ k, k < 7 → parseFieldDescriptor (TX7 k).2.2.1 = some (tyX7 k) := by decide +kernel
abbrev cX7_init : ByteArray := prog_1_method_1_code
def yX7_init : MethodName := ⟨RX7, "<init>", "()V"⟩
abbrev cX7_asset : ByteArray := prog_1_method_2_code
def yX7_asset : MethodName := ⟨RX7, "asset", "()I"⟩
abbrev cX7_bone : ByteArray := prog_1_method_3_code
def yX7_bone : MethodName := ⟨RX7, "bone", "(II)I"⟩
abbrev cX7_key : ByteArray := prog_1_method_4_code
def yX7_key : MethodName := ⟨RX7, "key", "(IIIII)I"⟩
abbrev cX7_unkey : ByteArray := prog_1_method_5_code
def yX7_unkey : MethodName := ⟨RX7, "unkey", "(III)Z"⟩
abbrev cX7_publish : ByteArray := prog_1_method_6_code
def yX7_publish : MethodName := ⟨RX7, "publish", "(I)I"⟩
abbrev cX7_pose : ByteArray := prog_1_method_7_code
def yX7_pose : MethodName := ⟨RX7, "pose", "(IIII)I"⟩
abbrev cX7_poseAnew : ByteArray := prog_1_method_8_code
def yX7_poseAnew : MethodName := ⟨RX7, "poseAnew", "(IIII)I"⟩
abbrev cX7_ofAsset : ByteArray := prog_1_method_9_code
def yX7_ofAsset : MethodName := ⟨RX7, "ofAsset", "(II)I"⟩
abbrev cX7_scene : ByteArray := prog_1_method_10_code
def yX7_scene : MethodName := ⟨RX7, "scene", "(I)I"⟩
abbrev cX7_cast : ByteArray := prog_1_method_11_code
def yX7_cast : MethodName := ⟨RX7, "cast", "(IIIII)I"⟩
abbrev cX7_cut : ByteArray := prog_1_method_12_code
def yX7_cut : MethodName := ⟨RX7, "cut", "(III)I"⟩
abbrev cX7_note : ByteArray := prog_1_method_13_code
def yX7_note : MethodName := ⟨RX7, "note", "(II)I"⟩
abbrev cX7_settle : ByteArray := prog_1_method_14_code
def yX7_settle : MethodName := ⟨RX7, "settle", "(I)I"⟩
abbrev cX7_ofNote : ByteArray := prog_1_method_15_code
def yX7_ofNote : MethodName := ⟨RX7, "ofNote", "(II)I"⟩
abbrev cX7_render : ByteArray := prog_1_method_16_code
def yX7_render : MethodName := ⟨RX7, "render", "(I)I"⟩
abbrev cX7_renderOne : ByteArray := prog_1_method_17_code
def yX7_renderOne : MethodName := ⟨RX7, "renderOne", "(II)Z"⟩
abbrev cX7_needs : ByteArray := prog_1_method_18_code
def yX7_needs : MethodName := ⟨RX7, "needs", "(I)I"⟩
abbrev cX7_mixes : ByteArray := prog_1_method_19_code
def yX7_mixes : MethodName := ⟨RX7, "mixes", "(I)I"⟩
abbrev cX7_ofFrame : ByteArray := prog_1_method_20_code
def yX7_ofFrame : MethodName := ⟨RX7, "ofFrame", "(III)I"⟩
abbrev cX7_kept : ByteArray := prog_1_method_21_code
def yX7_kept : MethodName := ⟨RX7, "kept", "(III)I"⟩
abbrev cX7_count : ByteArray := prog_1_method_22_code
def yX7_count : MethodName := ⟨RX7, "count", "(I)I"⟩
abbrev cX7_assetAt : ByteArray := prog_1_method_23_code
def yX7_assetAt : MethodName := ⟨RX7, "assetAt", "(I)LPegbarBarn$Asset;"⟩
abbrev cX7_sceneAt : ByteArray := prog_1_method_24_code
def yX7_sceneAt : MethodName := ⟨RX7, "sceneAt", "(I)LPegbarBarn$Scene;"⟩
abbrev cX7_noteAt : ByteArray := prog_1_method_25_code
def yX7_noteAt : MethodName := ⟨RX7, "noteAt", "(I)LPegbarBarn$Note;"⟩
abbrev cX7_draftCurve : ByteArray := prog_1_method_26_code
def yX7_draftCurve : MethodName := ⟨RX7, "draftCurve", "(II)LPegbarBarn$Curve;"⟩
abbrev cX7_rigOf : ByteArray := prog_1_method_27_code
def yX7_rigOf : MethodName := ⟨RX7, "rigOf", "(II)LPegbarBarn$Rig;"⟩
abbrev cX7_isCurveFrame : ByteArray := prog_1_method_28_code
def yX7_isCurveFrame : MethodName := ⟨RX7, "isCurveFrame", "(I)Z"⟩
abbrev cX7_canBeShown : ByteArray := prog_1_method_29_code
def yX7_canBeShown : MethodName := ⟨RX7, "canBeShown", "(I)Z"⟩
abbrev cX7_seenVersion : ByteArray := prog_1_method_30_code
def yX7_seenVersion : MethodName := ⟨RX7, "seenVersion", "(LPegbarBarn$Scene;LPegbarBarn$Frame;I)I"⟩
abbrev cX7_seenRig : ByteArray := prog_1_method_31_code
def yX7_seenRig : MethodName := ⟨RX7, "seenRig", "(LPegbarBarn$Scene;LPegbarBarn$Frame;I)LPegbarBarn$Rig;"⟩
abbrev cX7_bonesSeen : ByteArray := prog_1_method_32_code
def yX7_bonesSeen : MethodName := ⟨RX7, "bonesSeen", "(LPegbarBarn$Scene;LPegbarBarn$Frame;)I"⟩
abbrev cX7_keepVersions : ByteArray := prog_1_method_33_code
def yX7_keepVersions : MethodName := ⟨RX7, "keepVersions", "(LPegbarBarn$Scene;LPegbarBarn$Frame;)V"⟩
abbrev cX7_countRendering : ByteArray := prog_1_method_34_code
def yX7_countRendering : MethodName := ⟨RX7, "countRendering", "(LPegbarBarn$Frame;)V"⟩
abbrev cX7_isStale : ByteArray := prog_1_method_35_code
def yX7_isStale : MethodName := ⟨RX7, "isStale", "(LPegbarBarn$Scene;LPegbarBarn$Frame;)Z"⟩
abbrev cX7_staleFrames : ByteArray := prog_1_method_36_code
def yX7_staleFrames : MethodName := ⟨RX7, "staleFrames", "(LPegbarBarn$Scene;)I"⟩
abbrev cX7_moveNotes : ByteArray := prog_1_method_37_code
def yX7_moveNotes : MethodName := ⟨RX7, "moveNotes", "(IIII)V"⟩
abbrev cX7_openNotesOfScene : ByteArray := prog_1_method_38_code
def yX7_openNotesOfScene : MethodName := ⟨RX7, "openNotesOfScene", "(I)I"⟩
abbrev cX7_openNotesOfFrame : ByteArray := prog_1_method_39_code
def yX7_openNotesOfFrame : MethodName := ⟨RX7, "openNotesOfFrame", "(II)I"⟩
abbrev cX7_scenesThatCast : ByteArray := prog_1_method_40_code
def yX7_scenesThatCast : MethodName := ⟨RX7, "scenesThatCast", "(I)I"⟩
abbrev cX7_allVersions : ByteArray := prog_1_method_41_code
def yX7_allVersions : MethodName := ⟨RX7, "allVersions", "()I"⟩
abbrev cX7_allFrames : ByteArray := prog_1_method_42_code
def yX7_allFrames : MethodName := ⟨RX7, "allFrames", "()I"⟩
abbrev cX7_allStaleFrames : ByteArray := prog_1_method_43_code
def yX7_allStaleFrames : MethodName := ⟨RX7, "allStaleFrames", "()I"⟩
abbrev cX7_allOpenNotes : ByteArray := prog_1_method_44_code
def yX7_allOpenNotes : MethodName := ⟨RX7, "allOpenNotes", "()I"⟩
def RX8 : String := "PegbarBarnModel"
def TX8 : u_T := fun k => match k with
  | 0 => ("PegbarBarnModel", "thrown", "I", false)
  | 1 => ("PegbarBarnModel", "assets", "I", false)
  | 2 => ("PegbarBarnModel", "versions", "[I", true)
  | 3 => ("PegbarBarnModel", "bones", "[I", true)
  | 4 => ("PegbarBarnModel", "parent", "[I", true)
  | 5 => ("PegbarBarnModel", "keys", "[I", true)
  | 6 => ("PegbarBarnModel", "keyFrame", "[I", true)
  | 7 => ("PegbarBarnModel", "keyValue", "[I", true)
  | 8 => ("PegbarBarnModel", "keyHow", "[I", true)
  | 9 => ("PegbarBarnModel", "scenes", "I", false)
  | 10 => ("PegbarBarnModel", "frames", "[I", true)
  | 11 => ("PegbarBarnModel", "isCast", "[Z", true)
  | 12 => ("PegbarBarnModel", "pinned", "[I", true)
  | 13 => ("PegbarBarnModel", "castFrom", "[I", true)
  | 14 => ("PegbarBarnModel", "castTo", "[I", true)
  | 15 => ("PegbarBarnModel", "shows", "[I", true)
  | 16 => ("PegbarBarnModel", "times", "[I", true)
  | 17 => ("PegbarBarnModel", "keptVersion", "[I", true)
  | 18 => ("PegbarBarnModel", "keptBones", "[I", true)
  | 19 => ("PegbarBarnModel", "keptPose", "[I", true)
  | 20 => ("PegbarBarnModel", "renderings", "I", false)
  | 21 => ("PegbarBarnModel", "notes", "I", false)
  | 22 => ("PegbarBarnModel", "noteScene", "[I", true)
  | 23 => ("PegbarBarnModel", "noteFrame", "[I", true)
  | 24 => ("PegbarBarnModel", "isSettled", "[Z", true)
  | _ => ("PegbarBarnModel", "carried", "[I", true)
def tyX8 : Nat → FieldType := fun k => match k with
  | 0 => .int
  | 1 => .int
  | 2 => .array .int
  | 3 => .array .int
  | 4 => .array .int
  | 5 => .array .int
  | 6 => .array .int
  | 7 => .array .int
  | 8 => .array .int
  | 9 => .int
  | 10 => .array .int
  | 11 => .array .boolean
  | 12 => .array .int
  | 13 => .array .int
  | 14 => .array .int
  | 15 => .array .int
  | 16 => .array .int
  | 17 => .array .int
  | 18 => .array .int
  | 19 => .array .int
  | 20 => .int
  | 21 => .int
  | 22 => .array .int
  | 23 => .array .int
  | 24 => .array .boolean
  | _ => .array .int
abbrev wsX80 : List Cond := u_ws RX8 TX8 26
theorem nmX8 : ∀ a, a < 26 → ∀ b, b < 26 → a ≠ b → (TX8 a).2.1 ≠ (TX8 b).2.1 := by decide +kernel
theorem tyX8_ok : ∀ k, k < 26 → parseFieldDescriptor (TX8 k).2.2.1 = some (tyX8 k) := by decide +kernel
abbrev cX8_init : ByteArray := prog_10_method_1_code
def yX8_init : MethodName := ⟨RX8, "<init>", "()V"⟩
abbrev cX8_thrown : ByteArray := prog_10_method_2_code
def yX8_thrown : MethodName := ⟨RX8, "thrown", "()I"⟩
abbrev cX8_holds : ByteArray := prog_10_method_3_code
def yX8_holds : MethodName := ⟨RX8, "holds", "(I)Z"⟩
abbrev cX8_isIn : ByteArray := prog_10_method_4_code
def yX8_isIn : MethodName := ⟨RX8, "isIn", "(III)Z"⟩
abbrev cX8_isAsset : ByteArray := prog_10_method_5_code
def yX8_isAsset : MethodName := ⟨RX8, "isAsset", "(I)Z"⟩
abbrev cX8_isScene : ByteArray := prog_10_method_6_code
def yX8_isScene : MethodName := ⟨RX8, "isScene", "(I)Z"⟩
abbrev cX8_isFrame : ByteArray := prog_10_method_7_code
def yX8_isFrame : MethodName := ⟨RX8, "isFrame", "(II)Z"⟩
abbrev cX8_rigOf : ByteArray := prog_10_method_8_code
def yX8_rigOf : MethodName := ⟨RX8, "rigOf", "(II)I"⟩
abbrev cX8_isRig : ByteArray := prog_10_method_9_code
def yX8_isRig : MethodName := ⟨RX8, "isRig", "(II)Z"⟩
abbrev cX8_isBone : ByteArray := prog_10_method_10_code
def yX8_isBone : MethodName := ⟨RX8, "isBone", "(III)Z"⟩
abbrev cX8_keyAt : ByteArray := prog_10_method_11_code
def yX8_keyAt : MethodName := ⟨RX8, "keyAt", "(II)I"⟩
abbrev cX8_isKeyAt : ByteArray := prog_10_method_12_code
def yX8_isKeyAt : MethodName := ⟨RX8, "isKeyAt", "(II)Z"⟩
abbrev cX8_down : ByteArray := prog_10_method_13_code
def yX8_down : MethodName := ⟨RX8, "down", "(II)I"⟩
abbrev cX8_valueAt : ByteArray := prog_10_method_14_code
def yX8_valueAt : MethodName := ⟨RX8, "valueAt", "(II)I"⟩
abbrev cX8_poseOf : ByteArray := prog_10_method_15_code
def yX8_poseOf : MethodName := ⟨RX8, "poseOf", "(III)I"⟩
abbrev cX8_asset : ByteArray := prog_10_method_16_code
def yX8_asset : MethodName := ⟨RX8, "asset", "()I"⟩
abbrev cX8_bone : ByteArray := prog_10_method_17_code
def yX8_bone : MethodName := ⟨RX8, "bone", "(II)I"⟩
abbrev cX8_laysKey : ByteArray := prog_10_method_18_code
def yX8_laysKey : MethodName := ⟨RX8, "laysKey", "(IIII)V"⟩
abbrev cX8_copiesKey : ByteArray := prog_10_method_19_code
def yX8_copiesKey : MethodName := ⟨RX8, "copiesKey", "(II)V"⟩
abbrev cX8_key : ByteArray := prog_10_method_20_code
def yX8_key : MethodName := ⟨RX8, "key", "(IIIII)I"⟩
abbrev cX8_unkey : ByteArray := prog_10_method_21_code
def yX8_unkey : MethodName := ⟨RX8, "unkey", "(III)Z"⟩
abbrev cX8_publish : ByteArray := prog_10_method_22_code
def yX8_publish : MethodName := ⟨RX8, "publish", "(I)I"⟩
abbrev cX8_poses : ByteArray := prog_10_method_23_code
def yX8_poses : MethodName := ⟨RX8, "poses", "(IIII)I"⟩
abbrev cX8_pose : ByteArray := prog_10_method_24_code
def yX8_pose : MethodName := ⟨RX8, "pose", "(IIII)I"⟩
abbrev cX8_poseAnew : ByteArray := prog_10_method_25_code
def yX8_poseAnew : MethodName := ⟨RX8, "poseAnew", "(IIII)I"⟩
abbrev cX8_castsOf : ByteArray := prog_10_method_26_code
def yX8_castsOf : MethodName := ⟨RX8, "castsOf", "(I)I"⟩
abbrev cX8_ofAsset : ByteArray := prog_10_method_27_code
def yX8_ofAsset : MethodName := ⟨RX8, "ofAsset", "(II)I"⟩
abbrev cX8_scene : ByteArray := prog_10_method_28_code
def yX8_scene : MethodName := ⟨RX8, "scene", "(I)I"⟩
abbrev cX8_cast : ByteArray := prog_10_method_29_code
def yX8_cast : MethodName := ⟨RX8, "cast", "(IIIII)I"⟩
abbrev cX8_goesTo : ByteArray := prog_10_method_30_code
def yX8_goesTo : MethodName := ⟨RX8, "goesTo", "(II)V"⟩
abbrev cX8_carries : ByteArray := prog_10_method_31_code
def yX8_carries : MethodName := ⟨RX8, "carries", "(IIII)V"⟩
abbrev cX8_cut : ByteArray := prog_10_method_32_code
def yX8_cut : MethodName := ⟨RX8, "cut", "(III)I"⟩
abbrev cX8_note : ByteArray := prog_10_method_33_code
def yX8_note : MethodName := ⟨RX8, "note", "(II)I"⟩
abbrev cX8_unsettled : ByteArray := prog_10_method_34_code
def yX8_unsettled : MethodName := ⟨RX8, "unsettled", "(II)I"⟩
abbrev cX8_settle : ByteArray := prog_10_method_35_code
def yX8_settle : MethodName := ⟨RX8, "settle", "(I)I"⟩
abbrev cX8_ofNote : ByteArray := prog_10_method_36_code
def yX8_ofNote : MethodName := ⟨RX8, "ofNote", "(II)I"⟩
abbrev cX8_seenVersion : ByteArray := prog_10_method_37_code
def yX8_seenVersion : MethodName := ⟨RX8, "seenVersion", "(III)I"⟩
abbrev cX8_seenBones : ByteArray := prog_10_method_38_code
def yX8_seenBones : MethodName := ⟨RX8, "seenBones", "(III)I"⟩
abbrev cX8_isAsKept : ByteArray := prog_10_method_39_code
def yX8_isAsKept : MethodName := ⟨RX8, "isAsKept", "(III)Z"⟩
abbrev cX8_isNeeded : ByteArray := prog_10_method_40_code
def yX8_isNeeded : MethodName := ⟨RX8, "isNeeded", "(II)Z"⟩
abbrev cX8_keeps : ByteArray := prog_10_method_41_code
def yX8_keeps : MethodName := ⟨RX8, "keeps", "(II)V"⟩
abbrev cX8_renders : ByteArray := prog_10_method_42_code
def yX8_renders : MethodName := ⟨RX8, "renders", "(II)V"⟩
abbrev cX8_render : ByteArray := prog_10_method_43_code
def yX8_render : MethodName := ⟨RX8, "render", "(I)I"⟩
abbrev cX8_renderOne : ByteArray := prog_10_method_44_code
def yX8_renderOne : MethodName := ⟨RX8, "renderOne", "(II)Z"⟩
abbrev cX8_needed : ByteArray := prog_10_method_45_code
def yX8_needed : MethodName := ⟨RX8, "needed", "(I)I"⟩
abbrev cX8_needs : ByteArray := prog_10_method_46_code
def yX8_needs : MethodName := ⟨RX8, "needs", "(I)I"⟩
abbrev cX8_isMixed : ByteArray := prog_10_method_47_code
def yX8_isMixed : MethodName := ⟨RX8, "isMixed", "(II)Z"⟩
abbrev cX8_mixed : ByteArray := prog_10_method_48_code
def yX8_mixed : MethodName := ⟨RX8, "mixed", "(I)I"⟩
abbrev cX8_mixes : ByteArray := prog_10_method_49_code
def yX8_mixes : MethodName := ⟨RX8, "mixes", "(I)I"⟩
abbrev cX8_bonesAt : ByteArray := prog_10_method_50_code
def yX8_bonesAt : MethodName := ⟨RX8, "bonesAt", "(II)I"⟩
abbrev cX8_toldFrame : ByteArray := prog_10_method_51_code
def yX8_toldFrame : MethodName := ⟨RX8, "toldFrame", "(III)I"⟩
abbrev cX8_ofFrame : ByteArray := prog_10_method_52_code
def yX8_ofFrame : MethodName := ⟨RX8, "ofFrame", "(III)I"⟩
abbrev cX8_kept : ByteArray := prog_10_method_53_code
def yX8_kept : MethodName := ⟨RX8, "kept", "(III)I"⟩
abbrev cX8_countOf : ByteArray := prog_10_method_54_code
def yX8_countOf : MethodName := ⟨RX8, "countOf", "(I)I"⟩
abbrev cX8_count : ByteArray := prog_10_method_55_code
def yX8_count : MethodName := ⟨RX8, "count", "(I)I"⟩
def RJ9 : String := "java/lang/Math"
def TJ9 : u_T := fun k => match k with
  | _ => ("", "", "", false)
def tyJ9 : Nat → FieldType := fun k => match k with
  | _ => .int
abbrev wsJ90 : List Cond := u_ws RJ9 TJ9 0
theorem nmJ9 : ∀ a, a < 0 → ∀ b, b < 0 → a ≠ b → (TJ9 a).2.1 ≠ (TJ9 b).2.1 := by decide +kernel
theorem tyJ9_ok : ∀ k, k < 0 → parseFieldDescriptor (TJ9 k).2.2.1 = some (tyJ9 k) := by decide +kernel
abbrev cJ9_floorDiv_7cf53 : ByteArray := prog_15_method_47_code
def yJ9_floorDiv_7cf53 : MethodName := ⟨RJ9, "floorDiv", "(II)I"⟩
def RJ0 : String := "java/lang/String"
def TJ0 : u_T := fun k => match k with
  | _ => ("", "", "", false)
def tyJ0 : Nat → FieldType := fun k => match k with
  | _ => .int
abbrev wsJ00 : List Cond := u_ws RJ0 TJ0 0
theorem nmJ0 : ∀ a, a < 0 → ∀ b, b < 0 → a ≠ b → (TJ0 a).2.1 ≠ (TJ0 b).2.1 := by decide +kernel
theorem tyJ0_ok : ∀ k, k < 0 → parseFieldDescriptor (TJ0 k).2.2.1 = some (tyJ0 k) := by decide +kernel
def RL : String := "PegbarBarnLaw"
abbrev cL_asset : ByteArray := method_3_code
def yL_asset : MethodName := ⟨RL, "asset", "(LPegbarBarn;[J)I"⟩
abbrev cL_bone : ByteArray := method_4_code
def yL_bone : MethodName := ⟨RL, "bone", "(LPegbarBarn;II[J)I"⟩
abbrev cL_key : ByteArray := method_5_code
def yL_key : MethodName := ⟨RL, "key", "(LPegbarBarn;IIIII[J)I"⟩
abbrev cL_unkey : ByteArray := method_6_code
def yL_unkey : MethodName := ⟨RL, "unkey", "(LPegbarBarn;III[J)I"⟩
abbrev cL_publish : ByteArray := method_7_code
def yL_publish : MethodName := ⟨RL, "publish", "(LPegbarBarn;I[J)I"⟩
abbrev cL_pose : ByteArray := method_8_code
def yL_pose : MethodName := ⟨RL, "pose", "(LPegbarBarn;IIII[J)I"⟩
abbrev cL_poseAnew : ByteArray := method_9_code
def yL_poseAnew : MethodName := ⟨RL, "poseAnew", "(LPegbarBarn;IIII[J)I"⟩
abbrev cL_ofAsset : ByteArray := method_10_code
def yL_ofAsset : MethodName := ⟨RL, "ofAsset", "(LPegbarBarn;II[J)I"⟩
abbrev cL_scene : ByteArray := method_11_code
def yL_scene : MethodName := ⟨RL, "scene", "(LPegbarBarn;I[J)I"⟩
abbrev cL_cast : ByteArray := method_12_code
def yL_cast : MethodName := ⟨RL, "cast", "(LPegbarBarn;IIIII[J)I"⟩
abbrev cL_cut : ByteArray := method_13_code
def yL_cut : MethodName := ⟨RL, "cut", "(LPegbarBarn;III[J)I"⟩
abbrev cL_note : ByteArray := method_14_code
def yL_note : MethodName := ⟨RL, "note", "(LPegbarBarn;II[J)I"⟩
abbrev cL_settle : ByteArray := method_15_code
def yL_settle : MethodName := ⟨RL, "settle", "(LPegbarBarn;I[J)I"⟩
abbrev cL_ofNote : ByteArray := method_16_code
def yL_ofNote : MethodName := ⟨RL, "ofNote", "(LPegbarBarn;II[J)I"⟩
abbrev cL_render : ByteArray := method_17_code
def yL_render : MethodName := ⟨RL, "render", "(LPegbarBarn;I[J)I"⟩
abbrev cL_renderOne : ByteArray := method_18_code
def yL_renderOne : MethodName := ⟨RL, "renderOne", "(LPegbarBarn;II[J)I"⟩
abbrev cL_needs : ByteArray := method_19_code
def yL_needs : MethodName := ⟨RL, "needs", "(LPegbarBarn;I[J)I"⟩
abbrev cL_mixes : ByteArray := method_20_code
def yL_mixes : MethodName := ⟨RL, "mixes", "(LPegbarBarn;I[J)I"⟩
abbrev cL_ofFrame : ByteArray := method_21_code
def yL_ofFrame : MethodName := ⟨RL, "ofFrame", "(LPegbarBarn;III[J)I"⟩
abbrev cL_kept : ByteArray := method_22_code
def yL_kept : MethodName := ⟨RL, "kept", "(LPegbarBarn;III[J)I"⟩
abbrev cL_count : ByteArray := method_23_code
def yL_count : MethodName := ⟨RL, "count", "(LPegbarBarn;I[J)I"⟩
abbrev cL_law : ByteArray := code
def yL_law : MethodName := ⟨RL, "law", "([I)Z"⟩
theorem dX0_init_0 : decode cX0_init 0 = .ok (.aload_n 0, 1) := by decide +kernel
theorem dX0_init_1 : decode cX0_init 1 = .ok (.invokespecial 3, 3) := by decide +kernel
theorem dX0_init_4 : decode cX0_init 4 = .ok (.aload_n 0, 1) := by decide +kernel
theorem dX0_init_5 : decode cX0_init 5 = .ok (.new 9, 3) := by decide +kernel
theorem dX0_init_8 : decode cX0_init 8 = .ok (.dup, 1) := by decide +kernel
theorem dX0_init_9 : decode cX0_init 9 = .ok (.invokespecial 11, 3) := by decide +kernel
theorem dX0_init_12 : decode cX0_init 12 = .ok (.putfield 12, 3) := by decide +kernel
theorem dX0_init_15 : decode cX0_init 15 = .ok (.aload_n 0, 1) := by decide +kernel
theorem dX0_init_16 : decode cX0_init 16 = .ok (.bipush 12, 2) := by decide +kernel
theorem dX0_init_18 : decode cX0_init 18 = .ok (.anewarray 9, 3) := by decide +kernel
theorem dX0_init_21 : decode cX0_init 21 = .ok (.putfield 18, 3) := by decide +kernel
theorem dX0_init_24 : decode cX0_init 24 = .ok (.return_, 1) := by decide +kernel
theorem dX0_addVersion_0 : decode cX0_addVersion 0 = .ok (.aload_n 0, 1) := by decide +kernel
theorem dX0_addVersion_1 : decode cX0_addVersion 1 = .ok (.getfield 22, 3) := by decide +kernel
theorem dX0_addVersion_4 : decode cX0_addVersion 4 = .ok (.bipush 12, 2) := by decide +kernel
theorem dX0_addVersion_6 : decode cX0_addVersion 6 = .ok (.if_icmp .lt 5, 3) := by decide +kernel
theorem dX0_addVersion_9 : decode cX0_addVersion 9 = .ok (.iconst (-1), 1) := by decide +kernel
theorem dX0_addVersion_10 : decode cX0_addVersion 10 = .ok (.ireturn, 1) := by decide +kernel
theorem dX0_addVersion_11 : decode cX0_addVersion 11 = .ok (.aload_n 0, 1) := by decide +kernel
theorem dX0_addVersion_12 : decode cX0_addVersion 12 = .ok (.getfield 18, 3) := by decide +kernel
theorem dX0_addVersion_15 : decode cX0_addVersion 15 = .ok (.aload_n 0, 1) := by decide +kernel
theorem dX0_addVersion_16 : decode cX0_addVersion 16 = .ok (.getfield 22, 3) := by decide +kernel
theorem dX0_addVersion_19 : decode cX0_addVersion 19 = .ok (.aload_n 0, 1) := by decide +kernel
theorem dX0_addVersion_20 : decode cX0_addVersion 20 = .ok (.getfield 12, 3) := by decide +kernel
theorem dX0_addVersion_23 : decode cX0_addVersion 23 = .ok (.invokevirtual 26, 3) := by decide +kernel
theorem dX0_addVersion_26 : decode cX0_addVersion 26 = .ok (.aastore, 1) := by decide +kernel
theorem dX0_addVersion_27 : decode cX0_addVersion 27 = .ok (.aload_n 0, 1) := by decide +kernel
theorem dX0_addVersion_28 : decode cX0_addVersion 28 = .ok (.dup, 1) := by decide +kernel
theorem dX0_addVersion_29 : decode cX0_addVersion 29 = .ok (.getfield 22, 3) := by decide +kernel
theorem dX0_addVersion_32 : decode cX0_addVersion 32 = .ok (.dup_x1, 1) := by decide +kernel
theorem dX0_addVersion_33 : decode cX0_addVersion 33 = .ok (.iconst 1, 1) := by decide +kernel
theorem dX0_addVersion_34 : decode cX0_addVersion 34 = .ok (.iadd, 1) := by decide +kernel
theorem dX0_addVersion_35 : decode cX0_addVersion 35 = .ok (.putfield 22, 3) := by decide +kernel
theorem dX0_addVersion_38 : decode cX0_addVersion 38 = .ok (.ireturn, 1) := by decide +kernel
theorem dX0_versionAt_0 : decode cX0_versionAt 0 = .ok (.iload_n 1, 1) := by decide +kernel
theorem dX0_versionAt_1 : decode cX0_versionAt 1 = .ok (.ifCond .lt 11, 3) := by decide +kernel
theorem dX0_versionAt_4 : decode cX0_versionAt 4 = .ok (.iload_n 1, 1) := by decide +kernel
theorem dX0_versionAt_5 : decode cX0_versionAt 5 = .ok (.aload_n 0, 1) := by decide +kernel
theorem dX0_versionAt_6 : decode cX0_versionAt 6 = .ok (.getfield 22, 3) := by decide +kernel
theorem dX0_versionAt_9 : decode cX0_versionAt 9 = .ok (.if_icmp .lt 7, 3) := by decide +kernel
theorem dX0_versionAt_12 : decode cX0_versionAt 12 = .ok (.aconst_null, 1) := by decide +kernel
theorem dX0_versionAt_13 : decode cX0_versionAt 13 = .ok (.goto 9, 3) := by decide +kernel
theorem dX0_versionAt_16 : decode cX0_versionAt 16 = .ok (.aload_n 0, 1) := by decide +kernel
theorem dX0_versionAt_17 : decode cX0_versionAt 17 = .ok (.getfield 18, 3) := by decide +kernel
theorem dX0_versionAt_20 : decode cX0_versionAt 20 = .ok (.iload_n 1, 1) := by decide +kernel
theorem dX0_versionAt_21 : decode cX0_versionAt 21 = .ok (.aaload, 1) := by decide +kernel
theorem dX0_versionAt_22 : decode cX0_versionAt 22 = .ok (.areturn, 1) := by decide +kernel
theorem dX0_looksAlike_0 : decode cX0_looksAlike 0 = .ok (.iload_n 1, 1) := by decide +kernel
theorem dX0_looksAlike_1 : decode cX0_looksAlike 1 = .ok (.iload_n 2, 1) := by decide +kernel
theorem dX0_looksAlike_2 : decode cX0_looksAlike 2 = .ok (.if_icmp .ne 5, 3) := by decide +kernel
theorem dX0_looksAlike_5 : decode cX0_looksAlike 5 = .ok (.iconst 1, 1) := by decide +kernel
theorem dX0_looksAlike_6 : decode cX0_looksAlike 6 = .ok (.ireturn, 1) := by decide +kernel
theorem dX0_looksAlike_7 : decode cX0_looksAlike 7 = .ok (.aload_n 0, 1) := by decide +kernel
theorem dX0_looksAlike_8 : decode cX0_looksAlike 8 = .ok (.iload_n 1, 1) := by decide +kernel
theorem dX0_looksAlike_9 : decode cX0_looksAlike 9 = .ok (.invokevirtual 30, 3) := by decide +kernel
theorem dX0_looksAlike_12 : decode cX0_looksAlike 12 = .ok (.astore 4, 2) := by decide +kernel
theorem dX0_looksAlike_14 : decode cX0_looksAlike 14 = .ok (.aload_n 0, 1) := by decide +kernel
theorem dX0_looksAlike_15 : decode cX0_looksAlike 15 = .ok (.iload_n 2, 1) := by decide +kernel
theorem dX0_looksAlike_16 : decode cX0_looksAlike 16 = .ok (.invokevirtual 30, 3) := by decide +kernel
theorem dX0_looksAlike_19 : decode cX0_looksAlike 19 = .ok (.astore 5, 2) := by decide +kernel
theorem dX0_looksAlike_21 : decode cX0_looksAlike 21 = .ok (.aload 4, 2) := by decide +kernel
theorem dX0_looksAlike_23 : decode cX0_looksAlike 23 = .ok (.ifnull 23, 3) := by decide +kernel
theorem dX0_looksAlike_26 : decode cX0_looksAlike 26 = .ok (.aload 5, 2) := by decide +kernel
theorem dX0_looksAlike_28 : decode cX0_looksAlike 28 = .ok (.ifnull 18, 3) := by decide +kernel
theorem dX0_looksAlike_31 : decode cX0_looksAlike 31 = .ok (.aload 4, 2) := by decide +kernel
theorem dX0_looksAlike_33 : decode cX0_looksAlike 33 = .ok (.aload 5, 2) := by decide +kernel
theorem dX0_looksAlike_35 : decode cX0_looksAlike 35 = .ok (.iload_n 3, 1) := by decide +kernel
theorem dX0_looksAlike_36 : decode cX0_looksAlike 36 = .ok (.invokevirtual 34, 3) := by decide +kernel
theorem dX0_looksAlike_39 : decode cX0_looksAlike 39 = .ok (.ifCond .eq 7, 3) := by decide +kernel
theorem dX0_looksAlike_42 : decode cX0_looksAlike 42 = .ok (.iconst 1, 1) := by decide +kernel
theorem dX0_looksAlike_43 : decode cX0_looksAlike 43 = .ok (.goto 4, 3) := by decide +kernel
theorem dX0_looksAlike_46 : decode cX0_looksAlike 46 = .ok (.iconst 0, 1) := by decide +kernel
theorem dX0_looksAlike_47 : decode cX0_looksAlike 47 = .ok (.ireturn, 1) := by decide +kernel
theorem dX1_init_0 : decode cX1_init 0 = .ok (.aload_n 0, 1) := by decide +kernel
theorem dX1_init_1 : decode cX1_init 1 = .ok (.invokespecial 1, 3) := by decide +kernel
theorem dX1_init_4 : decode cX1_init 4 = .ok (.return_, 1) := by decide +kernel
theorem dX1_covers_0 : decode cX1_covers 0 = .ok (.iload_n 1, 1) := by decide +kernel
theorem dX1_covers_1 : decode cX1_covers 1 = .ok (.aload_n 0, 1) := by decide +kernel
theorem dX1_covers_2 : decode cX1_covers 2 = .ok (.getfield 7, 3) := by decide +kernel
theorem dX1_covers_5 : decode cX1_covers 5 = .ok (.if_icmp .lt 15, 3) := by decide +kernel
theorem dX1_covers_8 : decode cX1_covers 8 = .ok (.iload_n 1, 1) := by decide +kernel
theorem dX1_covers_9 : decode cX1_covers 9 = .ok (.aload_n 0, 1) := by decide +kernel
theorem dX1_covers_10 : decode cX1_covers 10 = .ok (.getfield 13, 3) := by decide +kernel
theorem dX1_covers_13 : decode cX1_covers 13 = .ok (.if_icmp .gt 7, 3) := by decide +kernel
theorem dX1_covers_16 : decode cX1_covers 16 = .ok (.iconst 1, 1) := by decide +kernel
theorem dX1_covers_17 : decode cX1_covers 17 = .ok (.goto 4, 3) := by decide +kernel
theorem dX1_covers_20 : decode cX1_covers 20 = .ok (.iconst 0, 1) := by decide +kernel
theorem dX1_covers_21 : decode cX1_covers 21 = .ok (.ireturn, 1) := by decide +kernel
theorem dX2_init_0 : decode cX2_init 0 = .ok (.aload_n 0, 1) := by decide +kernel
theorem dX2_init_1 : decode cX2_init 1 = .ok (.invokespecial 3, 3) := by decide +kernel
theorem dX2_init_4 : decode cX2_init 4 = .ok (.aload_n 0, 1) := by decide +kernel
theorem dX2_init_5 : decode cX2_init 5 = .ok (.bipush 12, 2) := by decide +kernel
theorem dX2_init_7 : decode cX2_init 7 = .ok (.newarray .int, 2) := by decide +kernel
theorem dX2_init_9 : decode cX2_init 9 = .ok (.putfield 9, 3) := by decide +kernel
theorem dX2_init_12 : decode cX2_init 12 = .ok (.aload_n 0, 1) := by decide +kernel
theorem dX2_init_13 : decode cX2_init 13 = .ok (.bipush 12, 2) := by decide +kernel
theorem dX2_init_15 : decode cX2_init 15 = .ok (.newarray .int, 2) := by decide +kernel
theorem dX2_init_17 : decode cX2_init 17 = .ok (.putfield 15, 3) := by decide +kernel
theorem dX2_init_20 : decode cX2_init 20 = .ok (.aload_n 0, 1) := by decide +kernel
theorem dX2_init_21 : decode cX2_init 21 = .ok (.bipush 12, 2) := by decide +kernel
theorem dX2_init_23 : decode cX2_init 23 = .ok (.newarray .int, 2) := by decide +kernel
theorem dX2_init_25 : decode cX2_init 25 = .ok (.putfield 18, 3) := by decide +kernel
theorem dX2_init_28 : decode cX2_init 28 = .ok (.return_, 1) := by decide +kernel
theorem dX2_keysAhead_0 : decode cX2_keysAhead 0 = .ok (.iconst 0, 1) := by decide +kernel
theorem dX2_keysAhead_1 : decode cX2_keysAhead 1 = .ok (.istore_n 2, 1) := by decide +kernel
theorem dX2_keysAhead_2 : decode cX2_keysAhead 2 = .ok (.iload_n 2, 1) := by decide +kernel
theorem dX2_keysAhead_3 : decode cX2_keysAhead 3 = .ok (.aload_n 0, 1) := by decide +kernel
theorem dX2_keysAhead_4 : decode cX2_keysAhead 4 = .ok (.getfield 21, 3) := by decide +kernel
theorem dX2_keysAhead_7 : decode cX2_keysAhead 7 = .ok (.if_icmp .ge 19, 3) := by decide +kernel
theorem dX2_keysAhead_10 : decode cX2_keysAhead 10 = .ok (.aload_n 0, 1) := by decide +kernel
theorem dX2_keysAhead_11 : decode cX2_keysAhead 11 = .ok (.getfield 9, 3) := by decide +kernel
theorem dX2_keysAhead_14 : decode cX2_keysAhead 14 = .ok (.iload_n 2, 1) := by decide +kernel
theorem dX2_keysAhead_15 : decode cX2_keysAhead 15 = .ok (.iaload, 1) := by decide +kernel
theorem dX2_keysAhead_16 : decode cX2_keysAhead 16 = .ok (.iload_n 1, 1) := by decide +kernel
theorem dX2_keysAhead_17 : decode cX2_keysAhead 17 = .ok (.if_icmp .ge 9, 3) := by decide +kernel
theorem dX2_keysAhead_20 : decode cX2_keysAhead 20 = .ok (.iinc 2 1, 3) := by decide +kernel
theorem dX2_keysAhead_23 : decode cX2_keysAhead 23 = .ok (.goto (-21), 3) := by decide +kernel
theorem dX2_keysAhead_26 : decode cX2_keysAhead 26 = .ok (.iload_n 2, 1) := by decide +kernel
theorem dX2_keysAhead_27 : decode cX2_keysAhead 27 = .ok (.ireturn, 1) := by decide +kernel
theorem dX2_standsAt_0 : decode cX2_standsAt 0 = .ok (.iload_n 1, 1) := by decide +kernel
theorem dX2_standsAt_1 : decode cX2_standsAt 1 = .ok (.aload_n 0, 1) := by decide +kernel
theorem dX2_standsAt_2 : decode cX2_standsAt 2 = .ok (.getfield 21, 3) := by decide +kernel
theorem dX2_standsAt_5 : decode cX2_standsAt 5 = .ok (.if_icmp .ge 17, 3) := by decide +kernel
theorem dX2_standsAt_8 : decode cX2_standsAt 8 = .ok (.aload_n 0, 1) := by decide +kernel
theorem dX2_standsAt_9 : decode cX2_standsAt 9 = .ok (.getfield 9, 3) := by decide +kernel
theorem dX2_standsAt_12 : decode cX2_standsAt 12 = .ok (.iload_n 1, 1) := by decide +kernel
theorem dX2_standsAt_13 : decode cX2_standsAt 13 = .ok (.iaload, 1) := by decide +kernel
theorem dX2_standsAt_14 : decode cX2_standsAt 14 = .ok (.iload_n 2, 1) := by decide +kernel
theorem dX2_standsAt_15 : decode cX2_standsAt 15 = .ok (.if_icmp .ne 7, 3) := by decide +kernel
theorem dX2_standsAt_18 : decode cX2_standsAt 18 = .ok (.iconst 1, 1) := by decide +kernel
theorem dX2_standsAt_19 : decode cX2_standsAt 19 = .ok (.goto 4, 3) := by decide +kernel
theorem dX2_standsAt_22 : decode cX2_standsAt 22 = .ok (.iconst 0, 1) := by decide +kernel
theorem dX2_standsAt_23 : decode cX2_standsAt 23 = .ok (.ireturn, 1) := by decide +kernel
theorem dX2_hasRoomFor_0 : decode cX2_hasRoomFor 0 = .ok (.aload_n 0, 1) := by decide +kernel
theorem dX2_hasRoomFor_1 : decode cX2_hasRoomFor 1 = .ok (.getfield 21, 3) := by decide +kernel
theorem dX2_hasRoomFor_4 : decode cX2_hasRoomFor 4 = .ok (.bipush 12, 2) := by decide +kernel
theorem dX2_hasRoomFor_6 : decode cX2_hasRoomFor 6 = .ok (.if_icmp .lt 16, 3) := by decide +kernel
theorem dX2_hasRoomFor_9 : decode cX2_hasRoomFor 9 = .ok (.aload_n 0, 1) := by decide +kernel
theorem dX2_hasRoomFor_10 : decode cX2_hasRoomFor 10 = .ok (.aload_n 0, 1) := by decide +kernel
theorem dX2_hasRoomFor_11 : decode cX2_hasRoomFor 11 = .ok (.iload_n 1, 1) := by decide +kernel
theorem dX2_hasRoomFor_12 : decode cX2_hasRoomFor 12 = .ok (.invokevirtual 25, 3) := by decide +kernel
theorem dX2_hasRoomFor_15 : decode cX2_hasRoomFor 15 = .ok (.iload_n 1, 1) := by decide +kernel
theorem dX2_hasRoomFor_16 : decode cX2_hasRoomFor 16 = .ok (.invokevirtual 29, 3) := by decide +kernel
theorem dX2_hasRoomFor_19 : decode cX2_hasRoomFor 19 = .ok (.ifCond .eq 7, 3) := by decide +kernel
theorem dX2_hasRoomFor_22 : decode cX2_hasRoomFor 22 = .ok (.iconst 1, 1) := by decide +kernel
theorem dX2_hasRoomFor_23 : decode cX2_hasRoomFor 23 = .ok (.goto 4, 3) := by decide +kernel
theorem dX2_hasRoomFor_26 : decode cX2_hasRoomFor 26 = .ok (.iconst 0, 1) := by decide +kernel
theorem dX2_hasRoomFor_27 : decode cX2_hasRoomFor 27 = .ok (.ireturn, 1) := by decide +kernel
theorem dX2_put_0 : decode cX2_put 0 = .ok (.aload_n 0, 1) := by decide +kernel
theorem dX2_put_1 : decode cX2_put 1 = .ok (.iload_n 1, 1) := by decide +kernel
theorem dX2_put_2 : decode cX2_put 2 = .ok (.invokevirtual 33, 3) := by decide +kernel
theorem dX2_put_5 : decode cX2_put 5 = .ok (.ifCond .ne 4, 3) := by decide +kernel
theorem dX2_put_8 : decode cX2_put 8 = .ok (.return_, 1) := by decide +kernel
theorem dX2_put_9 : decode cX2_put 9 = .ok (.aload_n 0, 1) := by decide +kernel
theorem dX2_put_10 : decode cX2_put 10 = .ok (.iload_n 1, 1) := by decide +kernel
theorem dX2_put_11 : decode cX2_put 11 = .ok (.invokevirtual 25, 3) := by decide +kernel
theorem dX2_put_14 : decode cX2_put 14 = .ok (.istore 4, 2) := by decide +kernel
theorem dX2_put_16 : decode cX2_put 16 = .ok (.aload_n 0, 1) := by decide +kernel
theorem dX2_put_17 : decode cX2_put 17 = .ok (.iload 4, 2) := by decide +kernel
theorem dX2_put_19 : decode cX2_put 19 = .ok (.iload_n 1, 1) := by decide +kernel
theorem dX2_put_20 : decode cX2_put 20 = .ok (.invokevirtual 29, 3) := by decide +kernel
theorem dX2_put_23 : decode cX2_put 23 = .ok (.ifCond .ne 42, 3) := by decide +kernel
theorem dX2_put_26 : decode cX2_put 26 = .ok (.aload_n 0, 1) := by decide +kernel
theorem dX2_put_27 : decode cX2_put 27 = .ok (.getfield 21, 3) := by decide +kernel
theorem dX2_put_30 : decode cX2_put 30 = .ok (.istore 5, 2) := by decide +kernel
theorem dX2_put_32 : decode cX2_put 32 = .ok (.iload 5, 2) := by decide +kernel
theorem dX2_put_34 : decode cX2_put 34 = .ok (.iload 4, 2) := by decide +kernel
theorem dX2_put_36 : decode cX2_put 36 = .ok (.if_icmp .le 19, 3) := by decide +kernel
theorem dX2_put_39 : decode cX2_put 39 = .ok (.aload_n 0, 1) := by decide +kernel
theorem dX2_put_40 : decode cX2_put 40 = .ok (.iload 5, 2) := by decide +kernel
theorem dX2_put_42 : decode cX2_put 42 = .ok (.iconst 1, 1) := by decide +kernel
theorem dX2_put_43 : decode cX2_put 43 = .ok (.isub, 1) := by decide +kernel
theorem dX2_put_44 : decode cX2_put 44 = .ok (.iload 5, 2) := by decide +kernel
theorem dX2_put_46 : decode cX2_put 46 = .ok (.invokevirtual 37, 3) := by decide +kernel
theorem dX2_put_49 : decode cX2_put 49 = .ok (.iinc 5 (-1), 3) := by decide +kernel
theorem dX2_put_52 : decode cX2_put 52 = .ok (.goto (-20), 3) := by decide +kernel
theorem dX2_put_55 : decode cX2_put 55 = .ok (.aload_n 0, 1) := by decide +kernel
theorem dX2_put_56 : decode cX2_put 56 = .ok (.dup, 1) := by decide +kernel
theorem dX2_put_57 : decode cX2_put 57 = .ok (.getfield 21, 3) := by decide +kernel
theorem dX2_put_60 : decode cX2_put 60 = .ok (.iconst 1, 1) := by decide +kernel
theorem dX2_put_61 : decode cX2_put 61 = .ok (.iadd, 1) := by decide +kernel
theorem dX2_put_62 : decode cX2_put 62 = .ok (.putfield 21, 3) := by decide +kernel
theorem dX2_put_65 : decode cX2_put 65 = .ok (.aload_n 0, 1) := by decide +kernel
theorem dX2_put_66 : decode cX2_put 66 = .ok (.getfield 9, 3) := by decide +kernel
theorem dX2_put_69 : decode cX2_put 69 = .ok (.iload 4, 2) := by decide +kernel
theorem dX2_put_71 : decode cX2_put 71 = .ok (.iload_n 1, 1) := by decide +kernel
theorem dX2_put_72 : decode cX2_put 72 = .ok (.iastore, 1) := by decide +kernel
theorem dX2_put_73 : decode cX2_put 73 = .ok (.aload_n 0, 1) := by decide +kernel
theorem dX2_put_74 : decode cX2_put 74 = .ok (.getfield 15, 3) := by decide +kernel
theorem dX2_put_77 : decode cX2_put 77 = .ok (.iload 4, 2) := by decide +kernel
theorem dX2_put_79 : decode cX2_put 79 = .ok (.iload_n 2, 1) := by decide +kernel
theorem dX2_put_80 : decode cX2_put 80 = .ok (.iastore, 1) := by decide +kernel
theorem dX2_put_81 : decode cX2_put 81 = .ok (.aload_n 0, 1) := by decide +kernel
theorem dX2_put_82 : decode cX2_put 82 = .ok (.getfield 18, 3) := by decide +kernel
theorem dX2_put_85 : decode cX2_put 85 = .ok (.iload 4, 2) := by decide +kernel
theorem dX2_put_87 : decode cX2_put 87 = .ok (.iload_n 3, 1) := by decide +kernel
theorem dX2_put_88 : decode cX2_put 88 = .ok (.iastore, 1) := by decide +kernel
theorem dX2_put_89 : decode cX2_put 89 = .ok (.return_, 1) := by decide +kernel
theorem dX2_take_0 : decode cX2_take 0 = .ok (.aload_n 0, 1) := by decide +kernel
theorem dX2_take_1 : decode cX2_take 1 = .ok (.iload_n 1, 1) := by decide +kernel
theorem dX2_take_2 : decode cX2_take 2 = .ok (.invokevirtual 25, 3) := by decide +kernel
theorem dX2_take_5 : decode cX2_take 5 = .ok (.istore_n 2, 1) := by decide +kernel
theorem dX2_take_6 : decode cX2_take 6 = .ok (.aload_n 0, 1) := by decide +kernel
theorem dX2_take_7 : decode cX2_take 7 = .ok (.iload_n 2, 1) := by decide +kernel
theorem dX2_take_8 : decode cX2_take 8 = .ok (.iload_n 1, 1) := by decide +kernel
theorem dX2_take_9 : decode cX2_take 9 = .ok (.invokevirtual 29, 3) := by decide +kernel
theorem dX2_take_12 : decode cX2_take 12 = .ok (.ifCond .ne 5, 3) := by decide +kernel
theorem dX2_take_15 : decode cX2_take 15 = .ok (.iconst 0, 1) := by decide +kernel
theorem dX2_take_16 : decode cX2_take 16 = .ok (.ireturn, 1) := by decide +kernel
theorem dX2_take_17 : decode cX2_take 17 = .ok (.aload_n 0, 1) := by decide +kernel
theorem dX2_take_18 : decode cX2_take 18 = .ok (.dup, 1) := by decide +kernel
theorem dX2_take_19 : decode cX2_take 19 = .ok (.getfield 21, 3) := by decide +kernel
theorem dX2_take_22 : decode cX2_take 22 = .ok (.iconst 1, 1) := by decide +kernel
theorem dX2_take_23 : decode cX2_take 23 = .ok (.isub, 1) := by decide +kernel
theorem dX2_take_24 : decode cX2_take 24 = .ok (.putfield 21, 3) := by decide +kernel
theorem dX2_take_27 : decode cX2_take 27 = .ok (.iload_n 2, 1) := by decide +kernel
theorem dX2_take_28 : decode cX2_take 28 = .ok (.istore_n 3, 1) := by decide +kernel
theorem dX2_take_29 : decode cX2_take 29 = .ok (.iload_n 3, 1) := by decide +kernel
theorem dX2_take_30 : decode cX2_take 30 = .ok (.aload_n 0, 1) := by decide +kernel
theorem dX2_take_31 : decode cX2_take 31 = .ok (.getfield 21, 3) := by decide +kernel
theorem dX2_take_34 : decode cX2_take 34 = .ok (.if_icmp .ge 17, 3) := by decide +kernel
theorem dX2_take_37 : decode cX2_take 37 = .ok (.aload_n 0, 1) := by decide +kernel
theorem dX2_take_38 : decode cX2_take 38 = .ok (.iload_n 3, 1) := by decide +kernel
theorem dX2_take_39 : decode cX2_take 39 = .ok (.iconst 1, 1) := by decide +kernel
theorem dX2_take_40 : decode cX2_take 40 = .ok (.iadd, 1) := by decide +kernel
theorem dX2_take_41 : decode cX2_take 41 = .ok (.iload_n 3, 1) := by decide +kernel
theorem dX2_take_42 : decode cX2_take 42 = .ok (.invokevirtual 37, 3) := by decide +kernel
theorem dX2_take_45 : decode cX2_take 45 = .ok (.iinc 3 1, 3) := by decide +kernel
theorem dX2_take_48 : decode cX2_take 48 = .ok (.goto (-19), 3) := by decide +kernel
theorem dX2_take_51 : decode cX2_take 51 = .ok (.iconst 1, 1) := by decide +kernel
theorem dX2_take_52 : decode cX2_take 52 = .ok (.ireturn, 1) := by decide +kernel
theorem dX2_moveKey_0 : decode cX2_moveKey 0 = .ok (.aload_n 0, 1) := by decide +kernel
theorem dX2_moveKey_1 : decode cX2_moveKey 1 = .ok (.getfield 9, 3) := by decide +kernel
theorem dX2_moveKey_4 : decode cX2_moveKey 4 = .ok (.iload_n 2, 1) := by decide +kernel
theorem dX2_moveKey_5 : decode cX2_moveKey 5 = .ok (.aload_n 0, 1) := by decide +kernel
theorem dX2_moveKey_6 : decode cX2_moveKey 6 = .ok (.getfield 9, 3) := by decide +kernel
theorem dX2_moveKey_9 : decode cX2_moveKey 9 = .ok (.iload_n 1, 1) := by decide +kernel
theorem dX2_moveKey_10 : decode cX2_moveKey 10 = .ok (.iaload, 1) := by decide +kernel
theorem dX2_moveKey_11 : decode cX2_moveKey 11 = .ok (.iastore, 1) := by decide +kernel
theorem dX2_moveKey_12 : decode cX2_moveKey 12 = .ok (.aload_n 0, 1) := by decide +kernel
theorem dX2_moveKey_13 : decode cX2_moveKey 13 = .ok (.getfield 15, 3) := by decide +kernel
theorem dX2_moveKey_16 : decode cX2_moveKey 16 = .ok (.iload_n 2, 1) := by decide +kernel
theorem dX2_moveKey_17 : decode cX2_moveKey 17 = .ok (.aload_n 0, 1) := by decide +kernel
theorem dX2_moveKey_18 : decode cX2_moveKey 18 = .ok (.getfield 15, 3) := by decide +kernel
theorem dX2_moveKey_21 : decode cX2_moveKey 21 = .ok (.iload_n 1, 1) := by decide +kernel
theorem dX2_moveKey_22 : decode cX2_moveKey 22 = .ok (.iaload, 1) := by decide +kernel
theorem dX2_moveKey_23 : decode cX2_moveKey 23 = .ok (.iastore, 1) := by decide +kernel
theorem dX2_moveKey_24 : decode cX2_moveKey 24 = .ok (.aload_n 0, 1) := by decide +kernel
theorem dX2_moveKey_25 : decode cX2_moveKey 25 = .ok (.getfield 18, 3) := by decide +kernel
theorem dX2_moveKey_28 : decode cX2_moveKey 28 = .ok (.iload_n 2, 1) := by decide +kernel
theorem dX2_moveKey_29 : decode cX2_moveKey 29 = .ok (.aload_n 0, 1) := by decide +kernel
theorem dX2_moveKey_30 : decode cX2_moveKey 30 = .ok (.getfield 18, 3) := by decide +kernel
theorem dX2_moveKey_33 : decode cX2_moveKey 33 = .ok (.iload_n 1, 1) := by decide +kernel
theorem dX2_moveKey_34 : decode cX2_moveKey 34 = .ok (.iaload, 1) := by decide +kernel
theorem dX2_moveKey_35 : decode cX2_moveKey 35 = .ok (.iastore, 1) := by decide +kernel
theorem dX2_moveKey_36 : decode cX2_moveKey 36 = .ok (.return_, 1) := by decide +kernel
theorem dX2_valueAt_0 : decode cX2_valueAt 0 = .ok (.aload_n 0, 1) := by decide +kernel
theorem dX2_valueAt_1 : decode cX2_valueAt 1 = .ok (.getfield 21, 3) := by decide +kernel
theorem dX2_valueAt_4 : decode cX2_valueAt 4 = .ok (.ifCond .ne 5, 3) := by decide +kernel
theorem dX2_valueAt_7 : decode cX2_valueAt 7 = .ok (.iconst 0, 1) := by decide +kernel
theorem dX2_valueAt_8 : decode cX2_valueAt 8 = .ok (.ireturn, 1) := by decide +kernel
theorem dX2_valueAt_9 : decode cX2_valueAt 9 = .ok (.aload_n 0, 1) := by decide +kernel
theorem dX2_valueAt_10 : decode cX2_valueAt 10 = .ok (.iload_n 1, 1) := by decide +kernel
theorem dX2_valueAt_11 : decode cX2_valueAt 11 = .ok (.iconst 1, 1) := by decide +kernel
theorem dX2_valueAt_12 : decode cX2_valueAt 12 = .ok (.iadd, 1) := by decide +kernel
theorem dX2_valueAt_13 : decode cX2_valueAt 13 = .ok (.invokevirtual 25, 3) := by decide +kernel
theorem dX2_valueAt_16 : decode cX2_valueAt 16 = .ok (.istore_n 2, 1) := by decide +kernel
theorem dX2_valueAt_17 : decode cX2_valueAt 17 = .ok (.iload_n 2, 1) := by decide +kernel
theorem dX2_valueAt_18 : decode cX2_valueAt 18 = .ok (.ifCond .ne 10, 3) := by decide +kernel
theorem dX2_valueAt_21 : decode cX2_valueAt 21 = .ok (.aload_n 0, 1) := by decide +kernel
theorem dX2_valueAt_22 : decode cX2_valueAt 22 = .ok (.getfield 15, 3) := by decide +kernel
theorem dX2_valueAt_25 : decode cX2_valueAt 25 = .ok (.iconst 0, 1) := by decide +kernel
theorem dX2_valueAt_26 : decode cX2_valueAt 26 = .ok (.iaload, 1) := by decide +kernel
theorem dX2_valueAt_27 : decode cX2_valueAt 27 = .ok (.ireturn, 1) := by decide +kernel
theorem dX2_valueAt_28 : decode cX2_valueAt 28 = .ok (.iload_n 2, 1) := by decide +kernel
theorem dX2_valueAt_29 : decode cX2_valueAt 29 = .ok (.aload_n 0, 1) := by decide +kernel
theorem dX2_valueAt_30 : decode cX2_valueAt 30 = .ok (.getfield 21, 3) := by decide +kernel
theorem dX2_valueAt_33 : decode cX2_valueAt 33 = .ok (.if_icmp .lt 15, 3) := by decide +kernel
theorem dX2_valueAt_36 : decode cX2_valueAt 36 = .ok (.aload_n 0, 1) := by decide +kernel
theorem dX2_valueAt_37 : decode cX2_valueAt 37 = .ok (.getfield 15, 3) := by decide +kernel
theorem dX2_valueAt_40 : decode cX2_valueAt 40 = .ok (.aload_n 0, 1) := by decide +kernel
theorem dX2_valueAt_41 : decode cX2_valueAt 41 = .ok (.getfield 21, 3) := by decide +kernel
theorem dX2_valueAt_44 : decode cX2_valueAt 44 = .ok (.iconst 1, 1) := by decide +kernel
theorem dX2_valueAt_45 : decode cX2_valueAt 45 = .ok (.isub, 1) := by decide +kernel
theorem dX2_valueAt_46 : decode cX2_valueAt 46 = .ok (.iaload, 1) := by decide +kernel
theorem dX2_valueAt_47 : decode cX2_valueAt 47 = .ok (.ireturn, 1) := by decide +kernel
theorem dX2_valueAt_48 : decode cX2_valueAt 48 = .ok (.aload_n 0, 1) := by decide +kernel
theorem dX2_valueAt_49 : decode cX2_valueAt 49 = .ok (.iload_n 2, 1) := by decide +kernel
theorem dX2_valueAt_50 : decode cX2_valueAt 50 = .ok (.iload_n 1, 1) := by decide +kernel
theorem dX2_valueAt_51 : decode cX2_valueAt 51 = .ok (.invokevirtual 41, 3) := by decide +kernel
theorem dX2_valueAt_54 : decode cX2_valueAt 54 = .ok (.ireturn, 1) := by decide +kernel
theorem dX2_valueAhead_0 : decode cX2_valueAhead 0 = .ok (.iload_n 1, 1) := by decide +kernel
theorem dX2_valueAhead_1 : decode cX2_valueAhead 1 = .ok (.iconst 1, 1) := by decide +kernel
theorem dX2_valueAhead_2 : decode cX2_valueAhead 2 = .ok (.isub, 1) := by decide +kernel
theorem dX2_valueAhead_3 : decode cX2_valueAhead 3 = .ok (.istore_n 3, 1) := by decide +kernel
theorem dX2_valueAhead_4 : decode cX2_valueAhead 4 = .ok (.aload_n 0, 1) := by decide +kernel
theorem dX2_valueAhead_5 : decode cX2_valueAhead 5 = .ok (.getfield 15, 3) := by decide +kernel
theorem dX2_valueAhead_8 : decode cX2_valueAhead 8 = .ok (.iload_n 3, 1) := by decide +kernel
theorem dX2_valueAhead_9 : decode cX2_valueAhead 9 = .ok (.iaload, 1) := by decide +kernel
theorem dX2_valueAhead_10 : decode cX2_valueAhead 10 = .ok (.istore 4, 2) := by decide +kernel
theorem dX2_valueAhead_12 : decode cX2_valueAhead 12 = .ok (.aload_n 0, 1) := by decide +kernel
theorem dX2_valueAhead_13 : decode cX2_valueAhead 13 = .ok (.getfield 9, 3) := by decide +kernel
theorem dX2_valueAhead_16 : decode cX2_valueAhead 16 = .ok (.iload_n 1, 1) := by decide +kernel
theorem dX2_valueAhead_17 : decode cX2_valueAhead 17 = .ok (.iaload, 1) := by decide +kernel
theorem dX2_valueAhead_18 : decode cX2_valueAhead 18 = .ok (.aload_n 0, 1) := by decide +kernel
theorem dX2_valueAhead_19 : decode cX2_valueAhead 19 = .ok (.getfield 9, 3) := by decide +kernel
theorem dX2_valueAhead_22 : decode cX2_valueAhead 22 = .ok (.iload_n 3, 1) := by decide +kernel
theorem dX2_valueAhead_23 : decode cX2_valueAhead 23 = .ok (.iaload, 1) := by decide +kernel
theorem dX2_valueAhead_24 : decode cX2_valueAhead 24 = .ok (.isub, 1) := by decide +kernel
theorem dX2_valueAhead_25 : decode cX2_valueAhead 25 = .ok (.istore 5, 2) := by decide +kernel
theorem dX2_valueAhead_27 : decode cX2_valueAhead 27 = .ok (.aload_n 0, 1) := by decide +kernel
theorem dX2_valueAhead_28 : decode cX2_valueAhead 28 = .ok (.getfield 18, 3) := by decide +kernel
theorem dX2_valueAhead_31 : decode cX2_valueAhead 31 = .ok (.iload_n 3, 1) := by decide +kernel
theorem dX2_valueAhead_32 : decode cX2_valueAhead 32 = .ok (.iaload, 1) := by decide +kernel
theorem dX2_valueAhead_33 : decode cX2_valueAhead 33 = .ok (.ifCond .eq 8, 3) := by decide +kernel
theorem dX2_valueAhead_36 : decode cX2_valueAhead 36 = .ok (.iload 5, 2) := by decide +kernel
theorem dX2_valueAhead_38 : decode cX2_valueAhead 38 = .ok (.ifCond .gt 6, 3) := by decide +kernel
theorem dX2_valueAhead_41 : decode cX2_valueAhead 41 = .ok (.iload 4, 2) := by decide +kernel
theorem dX2_valueAhead_43 : decode cX2_valueAhead 43 = .ok (.ireturn, 1) := by decide +kernel
theorem dX2_valueAhead_44 : decode cX2_valueAhead 44 = .ok (.aload_n 0, 1) := by decide +kernel
theorem dX2_valueAhead_45 : decode cX2_valueAhead 45 = .ok (.getfield 15, 3) := by decide +kernel
theorem dX2_valueAhead_48 : decode cX2_valueAhead 48 = .ok (.iload_n 1, 1) := by decide +kernel
theorem dX2_valueAhead_49 : decode cX2_valueAhead 49 = .ok (.iaload, 1) := by decide +kernel
theorem dX2_valueAhead_50 : decode cX2_valueAhead 50 = .ok (.iload 4, 2) := by decide +kernel
theorem dX2_valueAhead_52 : decode cX2_valueAhead 52 = .ok (.isub, 1) := by decide +kernel
theorem dX2_valueAhead_53 : decode cX2_valueAhead 53 = .ok (.istore 6, 2) := by decide +kernel
theorem dX2_valueAhead_55 : decode cX2_valueAhead 55 = .ok (.iload_n 2, 1) := by decide +kernel
theorem dX2_valueAhead_56 : decode cX2_valueAhead 56 = .ok (.aload_n 0, 1) := by decide +kernel
theorem dX2_valueAhead_57 : decode cX2_valueAhead 57 = .ok (.getfield 9, 3) := by decide +kernel
theorem dX2_valueAhead_60 : decode cX2_valueAhead 60 = .ok (.iload_n 3, 1) := by decide +kernel
theorem dX2_valueAhead_61 : decode cX2_valueAhead 61 = .ok (.iaload, 1) := by decide +kernel
theorem dX2_valueAhead_62 : decode cX2_valueAhead 62 = .ok (.isub, 1) := by decide +kernel
theorem dX2_valueAhead_63 : decode cX2_valueAhead 63 = .ok (.istore 7, 2) := by decide +kernel
theorem dX2_valueAhead_65 : decode cX2_valueAhead 65 = .ok (.aload_n 0, 1) := by decide +kernel
theorem dX2_valueAhead_66 : decode cX2_valueAhead 66 = .ok (.getfield 18, 3) := by decide +kernel
theorem dX2_valueAhead_69 : decode cX2_valueAhead 69 = .ok (.iload_n 3, 1) := by decide +kernel
theorem dX2_valueAhead_70 : decode cX2_valueAhead 70 = .ok (.iaload, 1) := by decide +kernel
theorem dX2_valueAhead_71 : decode cX2_valueAhead 71 = .ok (.iconst 1, 1) := by decide +kernel
theorem dX2_valueAhead_72 : decode cX2_valueAhead 72 = .ok (.if_icmp .ne 17, 3) := by decide +kernel
theorem dX2_valueAhead_75 : decode cX2_valueAhead 75 = .ok (.iload 4, 2) := by decide +kernel
theorem dX2_valueAhead_77 : decode cX2_valueAhead 77 = .ok (.iload 6, 2) := by decide +kernel
theorem dX2_valueAhead_79 : decode cX2_valueAhead 79 = .ok (.iload 7, 2) := by decide +kernel
theorem dX2_valueAhead_81 : decode cX2_valueAhead 81 = .ok (.imul, 1) := by decide +kernel
theorem dX2_valueAhead_82 : decode cX2_valueAhead 82 = .ok (.iload 5, 2) := by decide +kernel
theorem dX2_valueAhead_84 : decode cX2_valueAhead 84 = .ok (.invokestatic 45, 3) := by decide +kernel
theorem dX2_valueAhead_87 : decode cX2_valueAhead 87 = .ok (.iadd, 1) := by decide +kernel
theorem dX2_valueAhead_88 : decode cX2_valueAhead 88 = .ok (.ireturn, 1) := by decide +kernel
theorem dX2_valueAhead_89 : decode cX2_valueAhead 89 = .ok (.iload 4, 2) := by decide +kernel
theorem dX2_valueAhead_91 : decode cX2_valueAhead 91 = .ok (.iload 6, 2) := by decide +kernel
theorem dX2_valueAhead_93 : decode cX2_valueAhead 93 = .ok (.iload 7, 2) := by decide +kernel
theorem dX2_valueAhead_95 : decode cX2_valueAhead 95 = .ok (.imul, 1) := by decide +kernel
theorem dX2_valueAhead_96 : decode cX2_valueAhead 96 = .ok (.iload 7, 2) := by decide +kernel
theorem dX2_valueAhead_98 : decode cX2_valueAhead 98 = .ok (.imul, 1) := by decide +kernel
theorem dX2_valueAhead_99 : decode cX2_valueAhead 99 = .ok (.iload 5, 2) := by decide +kernel
theorem dX2_valueAhead_101 : decode cX2_valueAhead 101 = .ok (.iload 5, 2) := by decide +kernel
theorem dX2_valueAhead_103 : decode cX2_valueAhead 103 = .ok (.imul, 1) := by decide +kernel
theorem dX2_valueAhead_104 : decode cX2_valueAhead 104 = .ok (.invokestatic 45, 3) := by decide +kernel
theorem dX2_valueAhead_107 : decode cX2_valueAhead 107 = .ok (.iadd, 1) := by decide +kernel
theorem dX2_valueAhead_108 : decode cX2_valueAhead 108 = .ok (.ireturn, 1) := by decide +kernel
theorem dX2_copy_0 : decode cX2_copy 0 = .ok (.new 10, 3) := by decide +kernel
theorem dX2_copy_3 : decode cX2_copy 3 = .ok (.dup, 1) := by decide +kernel
theorem dX2_copy_4 : decode cX2_copy 4 = .ok (.invokespecial 50, 3) := by decide +kernel
theorem dX2_copy_7 : decode cX2_copy 7 = .ok (.astore_n 1, 1) := by decide +kernel
theorem dX2_copy_8 : decode cX2_copy 8 = .ok (.iconst 0, 1) := by decide +kernel
theorem dX2_copy_9 : decode cX2_copy 9 = .ok (.istore_n 2, 1) := by decide +kernel
theorem dX2_copy_10 : decode cX2_copy 10 = .ok (.iload_n 2, 1) := by decide +kernel
theorem dX2_copy_11 : decode cX2_copy 11 = .ok (.aload_n 0, 1) := by decide +kernel
theorem dX2_copy_12 : decode cX2_copy 12 = .ok (.getfield 21, 3) := by decide +kernel
theorem dX2_copy_15 : decode cX2_copy 15 = .ok (.if_icmp .ge 45, 3) := by decide +kernel
theorem dX2_copy_18 : decode cX2_copy 18 = .ok (.aload_n 1, 1) := by decide +kernel
theorem dX2_copy_19 : decode cX2_copy 19 = .ok (.getfield 9, 3) := by decide +kernel
theorem dX2_copy_22 : decode cX2_copy 22 = .ok (.iload_n 2, 1) := by decide +kernel
theorem dX2_copy_23 : decode cX2_copy 23 = .ok (.aload_n 0, 1) := by decide +kernel
theorem dX2_copy_24 : decode cX2_copy 24 = .ok (.getfield 9, 3) := by decide +kernel
theorem dX2_copy_27 : decode cX2_copy 27 = .ok (.iload_n 2, 1) := by decide +kernel
theorem dX2_copy_28 : decode cX2_copy 28 = .ok (.iaload, 1) := by decide +kernel
theorem dX2_copy_29 : decode cX2_copy 29 = .ok (.iastore, 1) := by decide +kernel
theorem dX2_copy_30 : decode cX2_copy 30 = .ok (.aload_n 1, 1) := by decide +kernel
theorem dX2_copy_31 : decode cX2_copy 31 = .ok (.getfield 15, 3) := by decide +kernel
theorem dX2_copy_34 : decode cX2_copy 34 = .ok (.iload_n 2, 1) := by decide +kernel
theorem dX2_copy_35 : decode cX2_copy 35 = .ok (.aload_n 0, 1) := by decide +kernel
theorem dX2_copy_36 : decode cX2_copy 36 = .ok (.getfield 15, 3) := by decide +kernel
theorem dX2_copy_39 : decode cX2_copy 39 = .ok (.iload_n 2, 1) := by decide +kernel
theorem dX2_copy_40 : decode cX2_copy 40 = .ok (.iaload, 1) := by decide +kernel
theorem dX2_copy_41 : decode cX2_copy 41 = .ok (.iastore, 1) := by decide +kernel
theorem dX2_copy_42 : decode cX2_copy 42 = .ok (.aload_n 1, 1) := by decide +kernel
theorem dX2_copy_43 : decode cX2_copy 43 = .ok (.getfield 18, 3) := by decide +kernel
theorem dX2_copy_46 : decode cX2_copy 46 = .ok (.iload_n 2, 1) := by decide +kernel
theorem dX2_copy_47 : decode cX2_copy 47 = .ok (.aload_n 0, 1) := by decide +kernel
theorem dX2_copy_48 : decode cX2_copy 48 = .ok (.getfield 18, 3) := by decide +kernel
theorem dX2_copy_51 : decode cX2_copy 51 = .ok (.iload_n 2, 1) := by decide +kernel
theorem dX2_copy_52 : decode cX2_copy 52 = .ok (.iaload, 1) := by decide +kernel
theorem dX2_copy_53 : decode cX2_copy 53 = .ok (.iastore, 1) := by decide +kernel
theorem dX2_copy_54 : decode cX2_copy 54 = .ok (.iinc 2 1, 3) := by decide +kernel
theorem dX2_copy_57 : decode cX2_copy 57 = .ok (.goto (-47), 3) := by decide +kernel
theorem dX2_copy_60 : decode cX2_copy 60 = .ok (.aload_n 1, 1) := by decide +kernel
theorem dX2_copy_61 : decode cX2_copy 61 = .ok (.aload_n 0, 1) := by decide +kernel
theorem dX2_copy_62 : decode cX2_copy 62 = .ok (.getfield 21, 3) := by decide +kernel
theorem dX2_copy_65 : decode cX2_copy 65 = .ok (.putfield 21, 3) := by decide +kernel
theorem dX2_copy_68 : decode cX2_copy 68 = .ok (.aload_n 1, 1) := by decide +kernel
theorem dX2_copy_69 : decode cX2_copy 69 = .ok (.areturn, 1) := by decide +kernel
theorem dX3_init_0 : decode cX3_init 0 = .ok (.aload_n 0, 1) := by decide +kernel
theorem dX3_init_1 : decode cX3_init 1 = .ok (.invokespecial 3, 3) := by decide +kernel
theorem dX3_init_4 : decode cX3_init 4 = .ok (.aload_n 0, 1) := by decide +kernel
theorem dX3_init_5 : decode cX3_init 5 = .ok (.bipush 8, 2) := by decide +kernel
theorem dX3_init_7 : decode cX3_init 7 = .ok (.newarray .int, 2) := by decide +kernel
theorem dX3_init_9 : decode cX3_init 9 = .ok (.putfield 9, 3) := by decide +kernel
theorem dX3_init_12 : decode cX3_init 12 = .ok (.aload_n 0, 1) := by decide +kernel
theorem dX3_init_13 : decode cX3_init 13 = .ok (.iload_n 1, 1) := by decide +kernel
theorem dX3_init_14 : decode cX3_init 14 = .ok (.putfield 15, 3) := by decide +kernel
theorem dX3_init_17 : decode cX3_init 17 = .ok (.iconst 0, 1) := by decide +kernel
theorem dX3_init_18 : decode cX3_init 18 = .ok (.istore_n 2, 1) := by decide +kernel
theorem dX3_init_19 : decode cX3_init 19 = .ok (.iload_n 2, 1) := by decide +kernel
theorem dX3_init_20 : decode cX3_init 20 = .ok (.bipush 8, 2) := by decide +kernel
theorem dX3_init_22 : decode cX3_init 22 = .ok (.if_icmp .ge 16, 3) := by decide +kernel
theorem dX3_init_25 : decode cX3_init 25 = .ok (.aload_n 0, 1) := by decide +kernel
theorem dX3_init_26 : decode cX3_init 26 = .ok (.getfield 9, 3) := by decide +kernel
theorem dX3_init_29 : decode cX3_init 29 = .ok (.iload_n 2, 1) := by decide +kernel
theorem dX3_init_30 : decode cX3_init 30 = .ok (.iconst (-1), 1) := by decide +kernel
theorem dX3_init_31 : decode cX3_init 31 = .ok (.iastore, 1) := by decide +kernel
theorem dX3_init_32 : decode cX3_init 32 = .ok (.iinc 2 1, 3) := by decide +kernel
theorem dX3_init_35 : decode cX3_init 35 = .ok (.goto (-16), 3) := by decide +kernel
theorem dX3_init_38 : decode cX3_init 38 = .ok (.return_, 1) := by decide +kernel
theorem dX3_versionOf_0 : decode cX3_versionOf 0 = .ok (.iload_n 1, 1) := by decide +kernel
theorem dX3_versionOf_1 : decode cX3_versionOf 1 = .ok (.ifCond .lt 9, 3) := by decide +kernel
theorem dX3_versionOf_4 : decode cX3_versionOf 4 = .ok (.iload_n 1, 1) := by decide +kernel
theorem dX3_versionOf_5 : decode cX3_versionOf 5 = .ok (.bipush 8, 2) := by decide +kernel
theorem dX3_versionOf_7 : decode cX3_versionOf 7 = .ok (.if_icmp .lt 7, 3) := by decide +kernel
theorem dX3_versionOf_10 : decode cX3_versionOf 10 = .ok (.iconst (-1), 1) := by decide +kernel
theorem dX3_versionOf_11 : decode cX3_versionOf 11 = .ok (.goto 9, 3) := by decide +kernel
theorem dX3_versionOf_14 : decode cX3_versionOf 14 = .ok (.aload_n 0, 1) := by decide +kernel
theorem dX3_versionOf_15 : decode cX3_versionOf 15 = .ok (.getfield 9, 3) := by decide +kernel
theorem dX3_versionOf_18 : decode cX3_versionOf 18 = .ok (.iload_n 1, 1) := by decide +kernel
theorem dX3_versionOf_19 : decode cX3_versionOf 19 = .ok (.iaload, 1) := by decide +kernel
theorem dX3_versionOf_20 : decode cX3_versionOf 20 = .ok (.ireturn, 1) := by decide +kernel
theorem dX3_keepVersion_0 : decode cX3_keepVersion 0 = .ok (.iload_n 1, 1) := by decide +kernel
theorem dX3_keepVersion_1 : decode cX3_keepVersion 1 = .ok (.ifCond .lt 16, 3) := by decide +kernel
theorem dX3_keepVersion_4 : decode cX3_keepVersion 4 = .ok (.iload_n 1, 1) := by decide +kernel
theorem dX3_keepVersion_5 : decode cX3_keepVersion 5 = .ok (.bipush 8, 2) := by decide +kernel
theorem dX3_keepVersion_7 : decode cX3_keepVersion 7 = .ok (.if_icmp .ge 10, 3) := by decide +kernel
theorem dX3_keepVersion_10 : decode cX3_keepVersion 10 = .ok (.aload_n 0, 1) := by decide +kernel
theorem dX3_keepVersion_11 : decode cX3_keepVersion 11 = .ok (.getfield 9, 3) := by decide +kernel
theorem dX3_keepVersion_14 : decode cX3_keepVersion 14 = .ok (.iload_n 1, 1) := by decide +kernel
theorem dX3_keepVersion_15 : decode cX3_keepVersion 15 = .ok (.iload_n 2, 1) := by decide +kernel
theorem dX3_keepVersion_16 : decode cX3_keepVersion 16 = .ok (.iastore, 1) := by decide +kernel
theorem dX3_keepVersion_17 : decode cX3_keepVersion 17 = .ok (.return_, 1) := by decide +kernel
theorem dX4_init_0 : decode cX4_init 0 = .ok (.aload_n 0, 1) := by decide +kernel
theorem dX4_init_1 : decode cX4_init 1 = .ok (.invokespecial 1, 3) := by decide +kernel
theorem dX4_init_4 : decode cX4_init 4 = .ok (.aload_n 0, 1) := by decide +kernel
theorem dX4_init_5 : decode cX4_init 5 = .ok (.iload_n 1, 1) := by decide +kernel
theorem dX4_init_6 : decode cX4_init 6 = .ok (.putfield 7, 3) := by decide +kernel
theorem dX4_init_9 : decode cX4_init 9 = .ok (.aload_n 0, 1) := by decide +kernel
theorem dX4_init_10 : decode cX4_init 10 = .ok (.iload_n 2, 1) := by decide +kernel
theorem dX4_init_11 : decode cX4_init 11 = .ok (.putfield 13, 3) := by decide +kernel
theorem dX4_init_14 : decode cX4_init 14 = .ok (.return_, 1) := by decide +kernel
theorem dX4_followCut_0 : decode cX4_followCut 0 = .ok (.aload_n 0, 1) := by decide +kernel
theorem dX4_followCut_1 : decode cX4_followCut 1 = .ok (.getfield 13, 3) := by decide +kernel
theorem dX4_followCut_4 : decode cX4_followCut 4 = .ok (.iload_n 1, 1) := by decide +kernel
theorem dX4_followCut_5 : decode cX4_followCut 5 = .ok (.iload_n 2, 1) := by decide +kernel
theorem dX4_followCut_6 : decode cX4_followCut 6 = .ok (.iadd, 1) := by decide +kernel
theorem dX4_followCut_7 : decode cX4_followCut 7 = .ok (.if_icmp .lt 16, 3) := by decide +kernel
theorem dX4_followCut_10 : decode cX4_followCut 10 = .ok (.aload_n 0, 1) := by decide +kernel
theorem dX4_followCut_11 : decode cX4_followCut 11 = .ok (.dup, 1) := by decide +kernel
theorem dX4_followCut_12 : decode cX4_followCut 12 = .ok (.getfield 13, 3) := by decide +kernel
theorem dX4_followCut_15 : decode cX4_followCut 15 = .ok (.iload_n 2, 1) := by decide +kernel
theorem dX4_followCut_16 : decode cX4_followCut 16 = .ok (.isub, 1) := by decide +kernel
theorem dX4_followCut_17 : decode cX4_followCut 17 = .ok (.putfield 13, 3) := by decide +kernel
theorem dX4_followCut_20 : decode cX4_followCut 20 = .ok (.goto 37, 3) := by decide +kernel
theorem dX4_followCut_23 : decode cX4_followCut 23 = .ok (.aload_n 0, 1) := by decide +kernel
theorem dX4_followCut_24 : decode cX4_followCut 24 = .ok (.getfield 13, 3) := by decide +kernel
theorem dX4_followCut_27 : decode cX4_followCut 27 = .ok (.iload_n 1, 1) := by decide +kernel
theorem dX4_followCut_28 : decode cX4_followCut 28 = .ok (.if_icmp .lt 29, 3) := by decide +kernel
theorem dX4_followCut_31 : decode cX4_followCut 31 = .ok (.aload_n 0, 1) := by decide +kernel
theorem dX4_followCut_32 : decode cX4_followCut 32 = .ok (.iload_n 1, 1) := by decide +kernel
theorem dX4_followCut_33 : decode cX4_followCut 33 = .ok (.iload_n 3, 1) := by decide +kernel
theorem dX4_followCut_34 : decode cX4_followCut 34 = .ok (.if_icmp .ge 7, 3) := by decide +kernel
theorem dX4_followCut_37 : decode cX4_followCut 37 = .ok (.iload_n 1, 1) := by decide +kernel
theorem dX4_followCut_38 : decode cX4_followCut 38 = .ok (.goto 6, 3) := by decide +kernel
theorem dX4_followCut_41 : decode cX4_followCut 41 = .ok (.iload_n 3, 1) := by decide +kernel
theorem dX4_followCut_42 : decode cX4_followCut 42 = .ok (.iconst 1, 1) := by decide +kernel
theorem dX4_followCut_43 : decode cX4_followCut 43 = .ok (.isub, 1) := by decide +kernel
theorem dX4_followCut_44 : decode cX4_followCut 44 = .ok (.putfield 13, 3) := by decide +kernel
theorem dX4_followCut_47 : decode cX4_followCut 47 = .ok (.aload_n 0, 1) := by decide +kernel
theorem dX4_followCut_48 : decode cX4_followCut 48 = .ok (.dup, 1) := by decide +kernel
theorem dX4_followCut_49 : decode cX4_followCut 49 = .ok (.getfield 16, 3) := by decide +kernel
theorem dX4_followCut_52 : decode cX4_followCut 52 = .ok (.iconst 1, 1) := by decide +kernel
theorem dX4_followCut_53 : decode cX4_followCut 53 = .ok (.iadd, 1) := by decide +kernel
theorem dX4_followCut_54 : decode cX4_followCut 54 = .ok (.putfield 16, 3) := by decide +kernel
theorem dX4_followCut_57 : decode cX4_followCut 57 = .ok (.return_, 1) := by decide +kernel
theorem dX5_init_0 : decode cX5_init 0 = .ok (.aload_n 0, 1) := by decide +kernel
theorem dX5_init_1 : decode cX5_init 1 = .ok (.invokespecial 3, 3) := by decide +kernel
theorem dX5_init_4 : decode cX5_init 4 = .ok (.aload_n 0, 1) := by decide +kernel
theorem dX5_init_5 : decode cX5_init 5 = .ok (.bipush 10, 2) := by decide +kernel
theorem dX5_init_7 : decode cX5_init 7 = .ok (.newarray .int, 2) := by decide +kernel
theorem dX5_init_9 : decode cX5_init 9 = .ok (.putfield 9, 3) := by decide +kernel
theorem dX5_init_12 : decode cX5_init 12 = .ok (.aload_n 0, 1) := by decide +kernel
theorem dX5_init_13 : decode cX5_init 13 = .ok (.bipush 10, 2) := by decide +kernel
theorem dX5_init_15 : decode cX5_init 15 = .ok (.anewarray 15, 3) := by decide +kernel
theorem dX5_init_18 : decode cX5_init 18 = .ok (.putfield 17, 3) := by decide +kernel
theorem dX5_init_21 : decode cX5_init 21 = .ok (.return_, 1) := by decide +kernel
theorem dX5_hasBone_0 : decode cX5_hasBone 0 = .ok (.iload_n 1, 1) := by decide +kernel
theorem dX5_hasBone_1 : decode cX5_hasBone 1 = .ok (.ifCond .lt 15, 3) := by decide +kernel
theorem dX5_hasBone_4 : decode cX5_hasBone 4 = .ok (.iload_n 1, 1) := by decide +kernel
theorem dX5_hasBone_5 : decode cX5_hasBone 5 = .ok (.aload_n 0, 1) := by decide +kernel
theorem dX5_hasBone_6 : decode cX5_hasBone 6 = .ok (.getfield 21, 3) := by decide +kernel
theorem dX5_hasBone_9 : decode cX5_hasBone 9 = .ok (.if_icmp .ge 7, 3) := by decide +kernel
theorem dX5_hasBone_12 : decode cX5_hasBone 12 = .ok (.iconst 1, 1) := by decide +kernel
theorem dX5_hasBone_13 : decode cX5_hasBone 13 = .ok (.goto 4, 3) := by decide +kernel
theorem dX5_hasBone_16 : decode cX5_hasBone 16 = .ok (.iconst 0, 1) := by decide +kernel
theorem dX5_hasBone_17 : decode cX5_hasBone 17 = .ok (.ireturn, 1) := by decide +kernel
theorem dX5_curveOf_0 : decode cX5_curveOf 0 = .ok (.aload_n 0, 1) := by decide +kernel
theorem dX5_curveOf_1 : decode cX5_curveOf 1 = .ok (.iload_n 1, 1) := by decide +kernel
theorem dX5_curveOf_2 : decode cX5_curveOf 2 = .ok (.invokevirtual 25, 3) := by decide +kernel
theorem dX5_curveOf_5 : decode cX5_curveOf 5 = .ok (.ifCond .eq 12, 3) := by decide +kernel
theorem dX5_curveOf_8 : decode cX5_curveOf 8 = .ok (.aload_n 0, 1) := by decide +kernel
theorem dX5_curveOf_9 : decode cX5_curveOf 9 = .ok (.getfield 17, 3) := by decide +kernel
theorem dX5_curveOf_12 : decode cX5_curveOf 12 = .ok (.iload_n 1, 1) := by decide +kernel
theorem dX5_curveOf_13 : decode cX5_curveOf 13 = .ok (.aaload, 1) := by decide +kernel
theorem dX5_curveOf_14 : decode cX5_curveOf 14 = .ok (.goto 4, 3) := by decide +kernel
theorem dX5_curveOf_17 : decode cX5_curveOf 17 = .ok (.aconst_null, 1) := by decide +kernel
theorem dX5_curveOf_18 : decode cX5_curveOf 18 = .ok (.areturn, 1) := by decide +kernel
theorem dX5_addBone_0 : decode cX5_addBone 0 = .ok (.aload_n 0, 1) := by decide +kernel
theorem dX5_addBone_1 : decode cX5_addBone 1 = .ok (.iload_n 1, 1) := by decide +kernel
theorem dX5_addBone_2 : decode cX5_addBone 2 = .ok (.new 15, 3) := by decide +kernel
theorem dX5_addBone_5 : decode cX5_addBone 5 = .ok (.dup, 1) := by decide +kernel
theorem dX5_addBone_6 : decode cX5_addBone 6 = .ok (.invokespecial 29, 3) := by decide +kernel
theorem dX5_addBone_9 : decode cX5_addBone 9 = .ok (.invokevirtual 30, 3) := by decide +kernel
theorem dX5_addBone_12 : decode cX5_addBone 12 = .ok (.ireturn, 1) := by decide +kernel
theorem dX5_append_0 : decode cX5_append 0 = .ok (.aload_n 0, 1) := by decide +kernel
theorem dX5_append_1 : decode cX5_append 1 = .ok (.getfield 21, 3) := by decide +kernel
theorem dX5_append_4 : decode cX5_append 4 = .ok (.bipush 10, 2) := by decide +kernel
theorem dX5_append_6 : decode cX5_append 6 = .ok (.if_icmp .lt 5, 3) := by decide +kernel
theorem dX5_append_9 : decode cX5_append 9 = .ok (.iconst (-1), 1) := by decide +kernel
theorem dX5_append_10 : decode cX5_append 10 = .ok (.ireturn, 1) := by decide +kernel
theorem dX5_append_11 : decode cX5_append 11 = .ok (.aload_n 0, 1) := by decide +kernel
theorem dX5_append_12 : decode cX5_append 12 = .ok (.getfield 9, 3) := by decide +kernel
theorem dX5_append_15 : decode cX5_append 15 = .ok (.aload_n 0, 1) := by decide +kernel
theorem dX5_append_16 : decode cX5_append 16 = .ok (.getfield 21, 3) := by decide +kernel
theorem dX5_append_19 : decode cX5_append 19 = .ok (.iload_n 1, 1) := by decide +kernel
theorem dX5_append_20 : decode cX5_append 20 = .ok (.iastore, 1) := by decide +kernel
theorem dX5_append_21 : decode cX5_append 21 = .ok (.aload_n 0, 1) := by decide +kernel
theorem dX5_append_22 : decode cX5_append 22 = .ok (.getfield 17, 3) := by decide +kernel
theorem dX5_append_25 : decode cX5_append 25 = .ok (.aload_n 0, 1) := by decide +kernel
theorem dX5_append_26 : decode cX5_append 26 = .ok (.getfield 21, 3) := by decide +kernel
theorem dX5_append_29 : decode cX5_append 29 = .ok (.aload_n 2, 1) := by decide +kernel
theorem dX5_append_30 : decode cX5_append 30 = .ok (.aastore, 1) := by decide +kernel
theorem dX5_append_31 : decode cX5_append 31 = .ok (.aload_n 0, 1) := by decide +kernel
theorem dX5_append_32 : decode cX5_append 32 = .ok (.dup, 1) := by decide +kernel
theorem dX5_append_33 : decode cX5_append 33 = .ok (.getfield 21, 3) := by decide +kernel
theorem dX5_append_36 : decode cX5_append 36 = .ok (.dup_x1, 1) := by decide +kernel
theorem dX5_append_37 : decode cX5_append 37 = .ok (.iconst 1, 1) := by decide +kernel
theorem dX5_append_38 : decode cX5_append 38 = .ok (.iadd, 1) := by decide +kernel
theorem dX5_append_39 : decode cX5_append 39 = .ok (.putfield 21, 3) := by decide +kernel
theorem dX5_append_42 : decode cX5_append 42 = .ok (.ireturn, 1) := by decide +kernel
theorem dX5_ownValue_0 : decode cX5_ownValue 0 = .ok (.aload_n 0, 1) := by decide +kernel
theorem dX5_ownValue_1 : decode cX5_ownValue 1 = .ok (.iload_n 1, 1) := by decide +kernel
theorem dX5_ownValue_2 : decode cX5_ownValue 2 = .ok (.invokevirtual 34, 3) := by decide +kernel
theorem dX5_ownValue_5 : decode cX5_ownValue 5 = .ok (.astore_n 3, 1) := by decide +kernel
theorem dX5_ownValue_6 : decode cX5_ownValue 6 = .ok (.aload_n 3, 1) := by decide +kernel
theorem dX5_ownValue_7 : decode cX5_ownValue 7 = .ok (.ifnonnull 7, 3) := by decide +kernel
theorem dX5_ownValue_10 : decode cX5_ownValue 10 = .ok (.iconst 0, 1) := by decide +kernel
theorem dX5_ownValue_11 : decode cX5_ownValue 11 = .ok (.goto 8, 3) := by decide +kernel
theorem dX5_ownValue_14 : decode cX5_ownValue 14 = .ok (.aload_n 3, 1) := by decide +kernel
theorem dX5_ownValue_15 : decode cX5_ownValue 15 = .ok (.iload_n 2, 1) := by decide +kernel
theorem dX5_ownValue_16 : decode cX5_ownValue 16 = .ok (.invokevirtual 38, 3) := by decide +kernel
theorem dX5_ownValue_19 : decode cX5_ownValue 19 = .ok (.ireturn, 1) := by decide +kernel
theorem dX5_poseUpwards_0 : decode cX5_poseUpwards 0 = .ok (.iconst 0, 1) := by decide +kernel
theorem dX5_poseUpwards_1 : decode cX5_poseUpwards 1 = .ok (.istore_n 3, 1) := by decide +kernel
theorem dX5_poseUpwards_2 : decode cX5_poseUpwards 2 = .ok (.iload_n 1, 1) := by decide +kernel
theorem dX5_poseUpwards_3 : decode cX5_poseUpwards 3 = .ok (.istore 4, 2) := by decide +kernel
theorem dX5_poseUpwards_5 : decode cX5_poseUpwards 5 = .ok (.iconst 0, 1) := by decide +kernel
theorem dX5_poseUpwards_6 : decode cX5_poseUpwards 6 = .ok (.istore 5, 2) := by decide +kernel
theorem dX5_poseUpwards_8 : decode cX5_poseUpwards 8 = .ok (.iload 5, 2) := by decide +kernel
theorem dX5_poseUpwards_10 : decode cX5_poseUpwards 10 = .ok (.bipush 10, 2) := by decide +kernel
theorem dX5_poseUpwards_12 : decode cX5_poseUpwards 12 = .ok (.if_icmp .ge 37, 3) := by decide +kernel
theorem dX5_poseUpwards_15 : decode cX5_poseUpwards 15 = .ok (.aload_n 0, 1) := by decide +kernel
theorem dX5_poseUpwards_16 : decode cX5_poseUpwards 16 = .ok (.iload 4, 2) := by decide +kernel
theorem dX5_poseUpwards_18 : decode cX5_poseUpwards 18 = .ok (.invokevirtual 25, 3) := by decide +kernel
theorem dX5_poseUpwards_21 : decode cX5_poseUpwards 21 = .ok (.ifCond .eq 28, 3) := by decide +kernel
theorem dX5_poseUpwards_24 : decode cX5_poseUpwards 24 = .ok (.iload_n 3, 1) := by decide +kernel
theorem dX5_poseUpwards_25 : decode cX5_poseUpwards 25 = .ok (.aload_n 0, 1) := by decide +kernel
theorem dX5_poseUpwards_26 : decode cX5_poseUpwards 26 = .ok (.iload 4, 2) := by decide +kernel
theorem dX5_poseUpwards_28 : decode cX5_poseUpwards 28 = .ok (.iload_n 2, 1) := by decide +kernel
theorem dX5_poseUpwards_29 : decode cX5_poseUpwards 29 = .ok (.invokevirtual 42, 3) := by decide +kernel
theorem dX5_poseUpwards_32 : decode cX5_poseUpwards 32 = .ok (.iadd, 1) := by decide +kernel
theorem dX5_poseUpwards_33 : decode cX5_poseUpwards 33 = .ok (.istore_n 3, 1) := by decide +kernel
theorem dX5_poseUpwards_34 : decode cX5_poseUpwards 34 = .ok (.aload_n 0, 1) := by decide +kernel
theorem dX5_poseUpwards_35 : decode cX5_poseUpwards 35 = .ok (.getfield 9, 3) := by decide +kernel
theorem dX5_poseUpwards_38 : decode cX5_poseUpwards 38 = .ok (.iload 4, 2) := by decide +kernel
theorem dX5_poseUpwards_40 : decode cX5_poseUpwards 40 = .ok (.iaload, 1) := by decide +kernel
theorem dX5_poseUpwards_41 : decode cX5_poseUpwards 41 = .ok (.istore 4, 2) := by decide +kernel
theorem dX5_poseUpwards_43 : decode cX5_poseUpwards 43 = .ok (.iinc 5 1, 3) := by decide +kernel
theorem dX5_poseUpwards_46 : decode cX5_poseUpwards 46 = .ok (.goto (-38), 3) := by decide +kernel
theorem dX5_poseUpwards_49 : decode cX5_poseUpwards 49 = .ok (.iload_n 3, 1) := by decide +kernel
theorem dX5_poseUpwards_50 : decode cX5_poseUpwards 50 = .ok (.ireturn, 1) := by decide +kernel
theorem dX5_poseAt_0 : decode cX5_poseAt 0 = .ok (.aload_n 0, 1) := by decide +kernel
theorem dX5_poseAt_1 : decode cX5_poseAt 1 = .ok (.getfield 46, 3) := by decide +kernel
theorem dX5_poseAt_4 : decode cX5_poseAt 4 = .ok (.ifnull 18, 3) := by decide +kernel
theorem dX5_poseAt_7 : decode cX5_poseAt 7 = .ok (.aload_n 0, 1) := by decide +kernel
theorem dX5_poseAt_8 : decode cX5_poseAt 8 = .ok (.iload_n 1, 1) := by decide +kernel
theorem dX5_poseAt_9 : decode cX5_poseAt 9 = .ok (.invokevirtual 25, 3) := by decide +kernel
theorem dX5_poseAt_12 : decode cX5_poseAt 12 = .ok (.ifCond .eq 10, 3) := by decide +kernel
theorem dX5_poseAt_15 : decode cX5_poseAt 15 = .ok (.iload_n 2, 1) := by decide +kernel
theorem dX5_poseAt_16 : decode cX5_poseAt 16 = .ok (.invokestatic 49, 3) := by decide +kernel
theorem dX5_poseAt_19 : decode cX5_poseAt 19 = .ok (.ifCond .ne 10, 3) := by decide +kernel
theorem dX5_poseAt_22 : decode cX5_poseAt 22 = .ok (.aload_n 0, 1) := by decide +kernel
theorem dX5_poseAt_23 : decode cX5_poseAt 23 = .ok (.iload_n 1, 1) := by decide +kernel
theorem dX5_poseAt_24 : decode cX5_poseAt 24 = .ok (.iload_n 2, 1) := by decide +kernel
theorem dX5_poseAt_25 : decode cX5_poseAt 25 = .ok (.invokevirtual 52, 3) := by decide +kernel
theorem dX5_poseAt_28 : decode cX5_poseAt 28 = .ok (.ireturn, 1) := by decide +kernel
theorem dX5_poseAt_29 : decode cX5_poseAt 29 = .ok (.aload_n 0, 1) := by decide +kernel
theorem dX5_poseAt_30 : decode cX5_poseAt 30 = .ok (.getfield 46, 3) := by decide +kernel
theorem dX5_poseAt_33 : decode cX5_poseAt 33 = .ok (.iload_n 2, 1) := by decide +kernel
theorem dX5_poseAt_34 : decode cX5_poseAt 34 = .ok (.aload_n 0, 1) := by decide +kernel
theorem dX5_poseAt_35 : decode cX5_poseAt 35 = .ok (.getfield 21, 3) := by decide +kernel
theorem dX5_poseAt_38 : decode cX5_poseAt 38 = .ok (.imul, 1) := by decide +kernel
theorem dX5_poseAt_39 : decode cX5_poseAt 39 = .ok (.iload_n 1, 1) := by decide +kernel
theorem dX5_poseAt_40 : decode cX5_poseAt 40 = .ok (.iadd, 1) := by decide +kernel
theorem dX5_poseAt_41 : decode cX5_poseAt 41 = .ok (.iaload, 1) := by decide +kernel
theorem dX5_poseAt_42 : decode cX5_poseAt 42 = .ok (.ireturn, 1) := by decide +kernel
theorem dX5_looksLike_0 : decode cX5_looksLike 0 = .ok (.aload_n 1, 1) := by decide +kernel
theorem dX5_looksLike_1 : decode cX5_looksLike 1 = .ok (.getfield 46, 3) := by decide +kernel
theorem dX5_looksLike_4 : decode cX5_looksLike 4 = .ok (.astore_n 3, 1) := by decide +kernel
theorem dX5_looksLike_5 : decode cX5_looksLike 5 = .ok (.aload_n 0, 1) := by decide +kernel
theorem dX5_looksLike_6 : decode cX5_looksLike 6 = .ok (.getfield 46, 3) := by decide +kernel
theorem dX5_looksLike_9 : decode cX5_looksLike 9 = .ok (.ifnull 25, 3) := by decide +kernel
theorem dX5_looksLike_12 : decode cX5_looksLike 12 = .ok (.aload_n 3, 1) := by decide +kernel
theorem dX5_looksLike_13 : decode cX5_looksLike 13 = .ok (.ifnull 21, 3) := by decide +kernel
theorem dX5_looksLike_16 : decode cX5_looksLike 16 = .ok (.aload_n 0, 1) := by decide +kernel
theorem dX5_looksLike_17 : decode cX5_looksLike 17 = .ok (.getfield 21, 3) := by decide +kernel
theorem dX5_looksLike_20 : decode cX5_looksLike 20 = .ok (.aload_n 1, 1) := by decide +kernel
theorem dX5_looksLike_21 : decode cX5_looksLike 21 = .ok (.getfield 21, 3) := by decide +kernel
theorem dX5_looksLike_24 : decode cX5_looksLike 24 = .ok (.if_icmp .ne 10, 3) := by decide +kernel
theorem dX5_looksLike_27 : decode cX5_looksLike 27 = .ok (.iload_n 2, 1) := by decide +kernel
theorem dX5_looksLike_28 : decode cX5_looksLike 28 = .ok (.invokestatic 49, 3) := by decide +kernel
theorem dX5_looksLike_31 : decode cX5_looksLike 31 = .ok (.ifCond .ne 5, 3) := by decide +kernel
theorem dX5_looksLike_34 : decode cX5_looksLike 34 = .ok (.iconst 0, 1) := by decide +kernel
theorem dX5_looksLike_35 : decode cX5_looksLike 35 = .ok (.ireturn, 1) := by decide +kernel
theorem dX5_looksLike_36 : decode cX5_looksLike 36 = .ok (.iload_n 2, 1) := by decide +kernel
theorem dX5_looksLike_37 : decode cX5_looksLike 37 = .ok (.aload_n 0, 1) := by decide +kernel
theorem dX5_looksLike_38 : decode cX5_looksLike 38 = .ok (.getfield 21, 3) := by decide +kernel
theorem dX5_looksLike_41 : decode cX5_looksLike 41 = .ok (.imul, 1) := by decide +kernel
theorem dX5_looksLike_42 : decode cX5_looksLike 42 = .ok (.istore 4, 2) := by decide +kernel
theorem dX5_looksLike_44 : decode cX5_looksLike 44 = .ok (.iload 4, 2) := by decide +kernel
theorem dX5_looksLike_46 : decode cX5_looksLike 46 = .ok (.iload_n 2, 1) := by decide +kernel
theorem dX5_looksLike_47 : decode cX5_looksLike 47 = .ok (.iconst 1, 1) := by decide +kernel
theorem dX5_looksLike_48 : decode cX5_looksLike 48 = .ok (.iadd, 1) := by decide +kernel
theorem dX5_looksLike_49 : decode cX5_looksLike 49 = .ok (.aload_n 0, 1) := by decide +kernel
theorem dX5_looksLike_50 : decode cX5_looksLike 50 = .ok (.getfield 21, 3) := by decide +kernel
theorem dX5_looksLike_53 : decode cX5_looksLike 53 = .ok (.imul, 1) := by decide +kernel
theorem dX5_looksLike_54 : decode cX5_looksLike 54 = .ok (.if_icmp .ge 25, 3) := by decide +kernel
theorem dX5_looksLike_57 : decode cX5_looksLike 57 = .ok (.aload_n 0, 1) := by decide +kernel
theorem dX5_looksLike_58 : decode cX5_looksLike 58 = .ok (.getfield 46, 3) := by decide +kernel
theorem dX5_looksLike_61 : decode cX5_looksLike 61 = .ok (.iload 4, 2) := by decide +kernel
theorem dX5_looksLike_63 : decode cX5_looksLike 63 = .ok (.iaload, 1) := by decide +kernel
theorem dX5_looksLike_64 : decode cX5_looksLike 64 = .ok (.aload_n 3, 1) := by decide +kernel
theorem dX5_looksLike_65 : decode cX5_looksLike 65 = .ok (.iload 4, 2) := by decide +kernel
theorem dX5_looksLike_67 : decode cX5_looksLike 67 = .ok (.iaload, 1) := by decide +kernel
theorem dX5_looksLike_68 : decode cX5_looksLike 68 = .ok (.if_icmp .eq 5, 3) := by decide +kernel
theorem dX5_looksLike_71 : decode cX5_looksLike 71 = .ok (.iconst 0, 1) := by decide +kernel
theorem dX5_looksLike_72 : decode cX5_looksLike 72 = .ok (.ireturn, 1) := by decide +kernel
theorem dX5_looksLike_73 : decode cX5_looksLike 73 = .ok (.iinc 4 1, 3) := by decide +kernel
theorem dX5_looksLike_76 : decode cX5_looksLike 76 = .ok (.goto (-32), 3) := by decide +kernel
theorem dX5_looksLike_79 : decode cX5_looksLike 79 = .ok (.iconst 1, 1) := by decide +kernel
theorem dX5_looksLike_80 : decode cX5_looksLike 80 = .ok (.ireturn, 1) := by decide +kernel
theorem dX5_versionOfIt_0 : decode cX5_versionOfIt 0 = .ok (.new 10, 3) := by decide +kernel
theorem dX5_versionOfIt_3 : decode cX5_versionOfIt 3 = .ok (.dup, 1) := by decide +kernel
theorem dX5_versionOfIt_4 : decode cX5_versionOfIt 4 = .ok (.invokespecial 55, 3) := by decide +kernel
theorem dX5_versionOfIt_7 : decode cX5_versionOfIt 7 = .ok (.astore_n 1, 1) := by decide +kernel
theorem dX5_versionOfIt_8 : decode cX5_versionOfIt 8 = .ok (.iconst 0, 1) := by decide +kernel
theorem dX5_versionOfIt_9 : decode cX5_versionOfIt 9 = .ok (.istore_n 2, 1) := by decide +kernel
theorem dX5_versionOfIt_10 : decode cX5_versionOfIt 10 = .ok (.iload_n 2, 1) := by decide +kernel
theorem dX5_versionOfIt_11 : decode cX5_versionOfIt 11 = .ok (.aload_n 0, 1) := by decide +kernel
theorem dX5_versionOfIt_12 : decode cX5_versionOfIt 12 = .ok (.getfield 21, 3) := by decide +kernel
theorem dX5_versionOfIt_15 : decode cX5_versionOfIt 15 = .ok (.if_icmp .ge 34, 3) := by decide +kernel
theorem dX5_versionOfIt_18 : decode cX5_versionOfIt 18 = .ok (.aload_n 0, 1) := by decide +kernel
theorem dX5_versionOfIt_19 : decode cX5_versionOfIt 19 = .ok (.iload_n 2, 1) := by decide +kernel
theorem dX5_versionOfIt_20 : decode cX5_versionOfIt 20 = .ok (.invokevirtual 34, 3) := by decide +kernel
theorem dX5_versionOfIt_23 : decode cX5_versionOfIt 23 = .ok (.astore_n 3, 1) := by decide +kernel
theorem dX5_versionOfIt_24 : decode cX5_versionOfIt 24 = .ok (.aload_n 3, 1) := by decide +kernel
theorem dX5_versionOfIt_25 : decode cX5_versionOfIt 25 = .ok (.ifnull 18, 3) := by decide +kernel
theorem dX5_versionOfIt_28 : decode cX5_versionOfIt 28 = .ok (.aload_n 1, 1) := by decide +kernel
theorem dX5_versionOfIt_29 : decode cX5_versionOfIt 29 = .ok (.aload_n 0, 1) := by decide +kernel
theorem dX5_versionOfIt_30 : decode cX5_versionOfIt 30 = .ok (.getfield 9, 3) := by decide +kernel
theorem dX5_versionOfIt_33 : decode cX5_versionOfIt 33 = .ok (.iload_n 2, 1) := by decide +kernel
theorem dX5_versionOfIt_34 : decode cX5_versionOfIt 34 = .ok (.iaload, 1) := by decide +kernel
theorem dX5_versionOfIt_35 : decode cX5_versionOfIt 35 = .ok (.aload_n 3, 1) := by decide +kernel
theorem dX5_versionOfIt_36 : decode cX5_versionOfIt 36 = .ok (.invokevirtual 56, 3) := by decide +kernel
theorem dX5_versionOfIt_39 : decode cX5_versionOfIt 39 = .ok (.invokevirtual 30, 3) := by decide +kernel
theorem dX5_versionOfIt_42 : decode cX5_versionOfIt 42 = .ok (.pop, 1) := by decide +kernel
theorem dX5_versionOfIt_43 : decode cX5_versionOfIt 43 = .ok (.iinc 2 1, 3) := by decide +kernel
theorem dX5_versionOfIt_46 : decode cX5_versionOfIt 46 = .ok (.goto (-36), 3) := by decide +kernel
theorem dX5_versionOfIt_49 : decode cX5_versionOfIt 49 = .ok (.aload_n 1, 1) := by decide +kernel
theorem dX5_versionOfIt_50 : decode cX5_versionOfIt 50 = .ok (.invokevirtual 60, 3) := by decide +kernel
theorem dX5_versionOfIt_53 : decode cX5_versionOfIt 53 = .ok (.aload_n 1, 1) := by decide +kernel
theorem dX5_versionOfIt_54 : decode cX5_versionOfIt 54 = .ok (.areturn, 1) := by decide +kernel
theorem dX5_fixPoses_0 : decode cX5_fixPoses 0 = .ok (.bipush 40, 2) := by decide +kernel
theorem dX5_fixPoses_2 : decode cX5_fixPoses 2 = .ok (.aload_n 0, 1) := by decide +kernel
theorem dX5_fixPoses_3 : decode cX5_fixPoses 3 = .ok (.getfield 21, 3) := by decide +kernel
theorem dX5_fixPoses_6 : decode cX5_fixPoses 6 = .ok (.imul, 1) := by decide +kernel
theorem dX5_fixPoses_7 : decode cX5_fixPoses 7 = .ok (.newarray .int, 2) := by decide +kernel
theorem dX5_fixPoses_9 : decode cX5_fixPoses 9 = .ok (.astore_n 1, 1) := by decide +kernel
theorem dX5_fixPoses_10 : decode cX5_fixPoses 10 = .ok (.iconst 0, 1) := by decide +kernel
theorem dX5_fixPoses_11 : decode cX5_fixPoses 11 = .ok (.istore_n 2, 1) := by decide +kernel
theorem dX5_fixPoses_12 : decode cX5_fixPoses 12 = .ok (.iload_n 2, 1) := by decide +kernel
theorem dX5_fixPoses_13 : decode cX5_fixPoses 13 = .ok (.bipush 40, 2) := by decide +kernel
theorem dX5_fixPoses_15 : decode cX5_fixPoses 15 = .ok (.if_icmp .ge 80, 3) := by decide +kernel
theorem dX5_fixPoses_18 : decode cX5_fixPoses 18 = .ok (.iload_n 2, 1) := by decide +kernel
theorem dX5_fixPoses_19 : decode cX5_fixPoses 19 = .ok (.aload_n 0, 1) := by decide +kernel
theorem dX5_fixPoses_20 : decode cX5_fixPoses 20 = .ok (.getfield 21, 3) := by decide +kernel
theorem dX5_fixPoses_23 : decode cX5_fixPoses 23 = .ok (.imul, 1) := by decide +kernel
theorem dX5_fixPoses_24 : decode cX5_fixPoses 24 = .ok (.istore_n 3, 1) := by decide +kernel
theorem dX5_fixPoses_25 : decode cX5_fixPoses 25 = .ok (.iconst 0, 1) := by decide +kernel
theorem dX5_fixPoses_26 : decode cX5_fixPoses 26 = .ok (.istore 4, 2) := by decide +kernel
theorem dX5_fixPoses_28 : decode cX5_fixPoses 28 = .ok (.iload 4, 2) := by decide +kernel
theorem dX5_fixPoses_30 : decode cX5_fixPoses 30 = .ok (.aload_n 0, 1) := by decide +kernel
theorem dX5_fixPoses_31 : decode cX5_fixPoses 31 = .ok (.getfield 21, 3) := by decide +kernel
theorem dX5_fixPoses_34 : decode cX5_fixPoses 34 = .ok (.if_icmp .ge 55, 3) := by decide +kernel
theorem dX5_fixPoses_37 : decode cX5_fixPoses 37 = .ok (.aload_n 0, 1) := by decide +kernel
theorem dX5_fixPoses_38 : decode cX5_fixPoses 38 = .ok (.getfield 9, 3) := by decide +kernel
theorem dX5_fixPoses_41 : decode cX5_fixPoses 41 = .ok (.iload 4, 2) := by decide +kernel
theorem dX5_fixPoses_43 : decode cX5_fixPoses 43 = .ok (.iaload, 1) := by decide +kernel
theorem dX5_fixPoses_44 : decode cX5_fixPoses 44 = .ok (.istore 5, 2) := by decide +kernel
theorem dX5_fixPoses_46 : decode cX5_fixPoses 46 = .ok (.aload_n 0, 1) := by decide +kernel
theorem dX5_fixPoses_47 : decode cX5_fixPoses 47 = .ok (.iload 5, 2) := by decide +kernel
theorem dX5_fixPoses_49 : decode cX5_fixPoses 49 = .ok (.invokevirtual 25, 3) := by decide +kernel
theorem dX5_fixPoses_52 : decode cX5_fixPoses 52 = .ok (.ifCond .eq 12, 3) := by decide +kernel
theorem dX5_fixPoses_55 : decode cX5_fixPoses 55 = .ok (.aload_n 1, 1) := by decide +kernel
theorem dX5_fixPoses_56 : decode cX5_fixPoses 56 = .ok (.iload_n 3, 1) := by decide +kernel
theorem dX5_fixPoses_57 : decode cX5_fixPoses 57 = .ok (.iload 5, 2) := by decide +kernel
theorem dX5_fixPoses_59 : decode cX5_fixPoses 59 = .ok (.iadd, 1) := by decide +kernel
theorem dX5_fixPoses_60 : decode cX5_fixPoses 60 = .ok (.iaload, 1) := by decide +kernel
theorem dX5_fixPoses_61 : decode cX5_fixPoses 61 = .ok (.goto 4, 3) := by decide +kernel
theorem dX5_fixPoses_64 : decode cX5_fixPoses 64 = .ok (.iconst 0, 1) := by decide +kernel
theorem dX5_fixPoses_65 : decode cX5_fixPoses 65 = .ok (.istore 6, 2) := by decide +kernel
theorem dX5_fixPoses_67 : decode cX5_fixPoses 67 = .ok (.aload_n 1, 1) := by decide +kernel
theorem dX5_fixPoses_68 : decode cX5_fixPoses 68 = .ok (.iload_n 3, 1) := by decide +kernel
theorem dX5_fixPoses_69 : decode cX5_fixPoses 69 = .ok (.iload 4, 2) := by decide +kernel
theorem dX5_fixPoses_71 : decode cX5_fixPoses 71 = .ok (.iadd, 1) := by decide +kernel
theorem dX5_fixPoses_72 : decode cX5_fixPoses 72 = .ok (.iload 6, 2) := by decide +kernel
theorem dX5_fixPoses_74 : decode cX5_fixPoses 74 = .ok (.aload_n 0, 1) := by decide +kernel
theorem dX5_fixPoses_75 : decode cX5_fixPoses 75 = .ok (.iload 4, 2) := by decide +kernel
theorem dX5_fixPoses_77 : decode cX5_fixPoses 77 = .ok (.iload_n 2, 1) := by decide +kernel
theorem dX5_fixPoses_78 : decode cX5_fixPoses 78 = .ok (.invokevirtual 42, 3) := by decide +kernel
theorem dX5_fixPoses_81 : decode cX5_fixPoses 81 = .ok (.iadd, 1) := by decide +kernel
theorem dX5_fixPoses_82 : decode cX5_fixPoses 82 = .ok (.iastore, 1) := by decide +kernel
theorem dX5_fixPoses_83 : decode cX5_fixPoses 83 = .ok (.iinc 4 1, 3) := by decide +kernel
theorem dX5_fixPoses_86 : decode cX5_fixPoses 86 = .ok (.goto (-58), 3) := by decide +kernel
theorem dX5_fixPoses_89 : decode cX5_fixPoses 89 = .ok (.iinc 2 1, 3) := by decide +kernel
theorem dX5_fixPoses_92 : decode cX5_fixPoses 92 = .ok (.goto (-80), 3) := by decide +kernel
theorem dX5_fixPoses_95 : decode cX5_fixPoses 95 = .ok (.aload_n 0, 1) := by decide +kernel
theorem dX5_fixPoses_96 : decode cX5_fixPoses 96 = .ok (.aload_n 1, 1) := by decide +kernel
theorem dX5_fixPoses_97 : decode cX5_fixPoses 97 = .ok (.putfield 46, 3) := by decide +kernel
theorem dX5_fixPoses_100 : decode cX5_fixPoses 100 = .ok (.return_, 1) := by decide +kernel
theorem dX6_init_0 : decode cX6_init 0 = .ok (.aload_n 0, 1) := by decide +kernel
theorem dX6_init_1 : decode cX6_init 1 = .ok (.invokespecial 3, 3) := by decide +kernel
theorem dX6_init_4 : decode cX6_init 4 = .ok (.aload_n 0, 1) := by decide +kernel
theorem dX6_init_5 : decode cX6_init 5 = .ok (.bipush 40, 2) := by decide +kernel
theorem dX6_init_7 : decode cX6_init 7 = .ok (.anewarray 9, 3) := by decide +kernel
theorem dX6_init_10 : decode cX6_init 10 = .ok (.putfield 11, 3) := by decide +kernel
theorem dX6_init_13 : decode cX6_init 13 = .ok (.aload_n 0, 1) := by decide +kernel
theorem dX6_init_14 : decode cX6_init 14 = .ok (.bipush 8, 2) := by decide +kernel
theorem dX6_init_16 : decode cX6_init 16 = .ok (.anewarray 17, 3) := by decide +kernel
theorem dX6_init_19 : decode cX6_init 19 = .ok (.putfield 19, 3) := by decide +kernel
theorem dX6_init_22 : decode cX6_init 22 = .ok (.iconst 0, 1) := by decide +kernel
theorem dX6_init_23 : decode cX6_init 23 = .ok (.istore_n 2, 1) := by decide +kernel
theorem dX6_init_24 : decode cX6_init 24 = .ok (.iload_n 2, 1) := by decide +kernel
theorem dX6_init_25 : decode cX6_init 25 = .ok (.iload_n 1, 1) := by decide +kernel
theorem dX6_init_26 : decode cX6_init 26 = .ok (.if_icmp .ge 39, 3) := by decide +kernel
theorem dX6_init_29 : decode cX6_init 29 = .ok (.iload_n 2, 1) := by decide +kernel
theorem dX6_init_30 : decode cX6_init 30 = .ok (.bipush 40, 2) := by decide +kernel
theorem dX6_init_32 : decode cX6_init 32 = .ok (.if_icmp .ge 33, 3) := by decide +kernel
theorem dX6_init_35 : decode cX6_init 35 = .ok (.aload_n 0, 1) := by decide +kernel
theorem dX6_init_36 : decode cX6_init 36 = .ok (.getfield 11, 3) := by decide +kernel
theorem dX6_init_39 : decode cX6_init 39 = .ok (.iload_n 2, 1) := by decide +kernel
theorem dX6_init_40 : decode cX6_init 40 = .ok (.new 9, 3) := by decide +kernel
theorem dX6_init_43 : decode cX6_init 43 = .ok (.dup, 1) := by decide +kernel
theorem dX6_init_44 : decode cX6_init 44 = .ok (.iload_n 2, 1) := by decide +kernel
theorem dX6_init_45 : decode cX6_init 45 = .ok (.invokespecial 23, 3) := by decide +kernel
theorem dX6_init_48 : decode cX6_init 48 = .ok (.aastore, 1) := by decide +kernel
theorem dX6_init_49 : decode cX6_init 49 = .ok (.aload_n 0, 1) := by decide +kernel
theorem dX6_init_50 : decode cX6_init 50 = .ok (.dup, 1) := by decide +kernel
theorem dX6_init_51 : decode cX6_init 51 = .ok (.getfield 26, 3) := by decide +kernel
theorem dX6_init_54 : decode cX6_init 54 = .ok (.iconst 1, 1) := by decide +kernel
theorem dX6_init_55 : decode cX6_init 55 = .ok (.iadd, 1) := by decide +kernel
theorem dX6_init_56 : decode cX6_init 56 = .ok (.putfield 26, 3) := by decide +kernel
theorem dX6_init_59 : decode cX6_init 59 = .ok (.iinc 2 1, 3) := by decide +kernel
theorem dX6_init_62 : decode cX6_init 62 = .ok (.goto (-38), 3) := by decide +kernel
theorem dX6_init_65 : decode cX6_init 65 = .ok (.return_, 1) := by decide +kernel
theorem dX6_hasFrame_0 : decode cX6_hasFrame 0 = .ok (.iload_n 1, 1) := by decide +kernel
theorem dX6_hasFrame_1 : decode cX6_hasFrame 1 = .ok (.ifCond .lt 15, 3) := by decide +kernel
theorem dX6_hasFrame_4 : decode cX6_hasFrame 4 = .ok (.iload_n 1, 1) := by decide +kernel
theorem dX6_hasFrame_5 : decode cX6_hasFrame 5 = .ok (.aload_n 0, 1) := by decide +kernel
theorem dX6_hasFrame_6 : decode cX6_hasFrame 6 = .ok (.getfield 26, 3) := by decide +kernel
theorem dX6_hasFrame_9 : decode cX6_hasFrame 9 = .ok (.if_icmp .ge 7, 3) := by decide +kernel
theorem dX6_hasFrame_12 : decode cX6_hasFrame 12 = .ok (.iconst 1, 1) := by decide +kernel
theorem dX6_hasFrame_13 : decode cX6_hasFrame 13 = .ok (.goto 4, 3) := by decide +kernel
theorem dX6_hasFrame_16 : decode cX6_hasFrame 16 = .ok (.iconst 0, 1) := by decide +kernel
theorem dX6_hasFrame_17 : decode cX6_hasFrame 17 = .ok (.ireturn, 1) := by decide +kernel
theorem dX6_frameAt_0 : decode cX6_frameAt 0 = .ok (.aload_n 0, 1) := by decide +kernel
theorem dX6_frameAt_1 : decode cX6_frameAt 1 = .ok (.iload_n 1, 1) := by decide +kernel
theorem dX6_frameAt_2 : decode cX6_frameAt 2 = .ok (.invokevirtual 30, 3) := by decide +kernel
theorem dX6_frameAt_5 : decode cX6_frameAt 5 = .ok (.ifCond .eq 12, 3) := by decide +kernel
theorem dX6_frameAt_8 : decode cX6_frameAt 8 = .ok (.aload_n 0, 1) := by decide +kernel
theorem dX6_frameAt_9 : decode cX6_frameAt 9 = .ok (.getfield 11, 3) := by decide +kernel
theorem dX6_frameAt_12 : decode cX6_frameAt 12 = .ok (.iload_n 1, 1) := by decide +kernel
theorem dX6_frameAt_13 : decode cX6_frameAt 13 = .ok (.aaload, 1) := by decide +kernel
theorem dX6_frameAt_14 : decode cX6_frameAt 14 = .ok (.goto 4, 3) := by decide +kernel
theorem dX6_frameAt_17 : decode cX6_frameAt 17 = .ok (.aconst_null, 1) := by decide +kernel
theorem dX6_frameAt_18 : decode cX6_frameAt 18 = .ok (.areturn, 1) := by decide +kernel
theorem dX6_castingOf_0 : decode cX6_castingOf 0 = .ok (.iload_n 1, 1) := by decide +kernel
theorem dX6_castingOf_1 : decode cX6_castingOf 1 = .ok (.ifCond .lt 9, 3) := by decide +kernel
theorem dX6_castingOf_4 : decode cX6_castingOf 4 = .ok (.iload_n 1, 1) := by decide +kernel
theorem dX6_castingOf_5 : decode cX6_castingOf 5 = .ok (.bipush 8, 2) := by decide +kernel
theorem dX6_castingOf_7 : decode cX6_castingOf 7 = .ok (.if_icmp .lt 7, 3) := by decide +kernel
theorem dX6_castingOf_10 : decode cX6_castingOf 10 = .ok (.aconst_null, 1) := by decide +kernel
theorem dX6_castingOf_11 : decode cX6_castingOf 11 = .ok (.goto 9, 3) := by decide +kernel
theorem dX6_castingOf_14 : decode cX6_castingOf 14 = .ok (.aload_n 0, 1) := by decide +kernel
theorem dX6_castingOf_15 : decode cX6_castingOf 15 = .ok (.getfield 19, 3) := by decide +kernel
theorem dX6_castingOf_18 : decode cX6_castingOf 18 = .ok (.iload_n 1, 1) := by decide +kernel
theorem dX6_castingOf_19 : decode cX6_castingOf 19 = .ok (.aaload, 1) := by decide +kernel
theorem dX6_castingOf_20 : decode cX6_castingOf 20 = .ok (.areturn, 1) := by decide +kernel
theorem dX6_setCasting_0 : decode cX6_setCasting 0 = .ok (.iload_n 1, 1) := by decide +kernel
theorem dX6_setCasting_1 : decode cX6_setCasting 1 = .ok (.ifCond .lt 9, 3) := by decide +kernel
theorem dX6_setCasting_4 : decode cX6_setCasting 4 = .ok (.iload_n 1, 1) := by decide +kernel
theorem dX6_setCasting_5 : decode cX6_setCasting 5 = .ok (.bipush 8, 2) := by decide +kernel
theorem dX6_setCasting_7 : decode cX6_setCasting 7 = .ok (.if_icmp .lt 4, 3) := by decide +kernel
theorem dX6_setCasting_10 : decode cX6_setCasting 10 = .ok (.return_, 1) := by decide +kernel
theorem dX6_setCasting_11 : decode cX6_setCasting 11 = .ok (.aload_n 0, 1) := by decide +kernel
theorem dX6_setCasting_12 : decode cX6_setCasting 12 = .ok (.getfield 19, 3) := by decide +kernel
theorem dX6_setCasting_15 : decode cX6_setCasting 15 = .ok (.iload_n 1, 1) := by decide +kernel
theorem dX6_setCasting_16 : decode cX6_setCasting 16 = .ok (.aaload, 1) := by decide +kernel
theorem dX6_setCasting_17 : decode cX6_setCasting 17 = .ok (.astore 5, 2) := by decide +kernel
theorem dX6_setCasting_19 : decode cX6_setCasting 19 = .ok (.aload 5, 2) := by decide +kernel
theorem dX6_setCasting_21 : decode cX6_setCasting 21 = .ok (.ifnonnull 30, 3) := by decide +kernel
theorem dX6_setCasting_24 : decode cX6_setCasting 24 = .ok (.new 17, 3) := by decide +kernel
theorem dX6_setCasting_27 : decode cX6_setCasting 27 = .ok (.dup, 1) := by decide +kernel
theorem dX6_setCasting_28 : decode cX6_setCasting 28 = .ok (.invokespecial 34, 3) := by decide +kernel
theorem dX6_setCasting_31 : decode cX6_setCasting 31 = .ok (.astore 5, 2) := by decide +kernel
theorem dX6_setCasting_33 : decode cX6_setCasting 33 = .ok (.aload_n 0, 1) := by decide +kernel
theorem dX6_setCasting_34 : decode cX6_setCasting 34 = .ok (.getfield 19, 3) := by decide +kernel
theorem dX6_setCasting_37 : decode cX6_setCasting 37 = .ok (.iload_n 1, 1) := by decide +kernel
theorem dX6_setCasting_38 : decode cX6_setCasting 38 = .ok (.aload 5, 2) := by decide +kernel
theorem dX6_setCasting_40 : decode cX6_setCasting 40 = .ok (.aastore, 1) := by decide +kernel
theorem dX6_setCasting_41 : decode cX6_setCasting 41 = .ok (.aload_n 0, 1) := by decide +kernel
theorem dX6_setCasting_42 : decode cX6_setCasting 42 = .ok (.dup, 1) := by decide +kernel
theorem dX6_setCasting_43 : decode cX6_setCasting 43 = .ok (.getfield 35, 3) := by decide +kernel
theorem dX6_setCasting_46 : decode cX6_setCasting 46 = .ok (.iconst 1, 1) := by decide +kernel
theorem dX6_setCasting_47 : decode cX6_setCasting 47 = .ok (.iadd, 1) := by decide +kernel
theorem dX6_setCasting_48 : decode cX6_setCasting 48 = .ok (.putfield 35, 3) := by decide +kernel
theorem dX6_setCasting_51 : decode cX6_setCasting 51 = .ok (.aload 5, 2) := by decide +kernel
theorem dX6_setCasting_53 : decode cX6_setCasting 53 = .ok (.iload_n 2, 1) := by decide +kernel
theorem dX6_setCasting_54 : decode cX6_setCasting 54 = .ok (.putfield 38, 3) := by decide +kernel
theorem dX6_setCasting_57 : decode cX6_setCasting 57 = .ok (.aload 5, 2) := by decide +kernel
theorem dX6_setCasting_59 : decode cX6_setCasting 59 = .ok (.iload_n 3, 1) := by decide +kernel
theorem dX6_setCasting_60 : decode cX6_setCasting 60 = .ok (.putfield 41, 3) := by decide +kernel
theorem dX6_setCasting_63 : decode cX6_setCasting 63 = .ok (.aload 5, 2) := by decide +kernel
theorem dX6_setCasting_65 : decode cX6_setCasting 65 = .ok (.iload 4, 2) := by decide +kernel
theorem dX6_setCasting_67 : decode cX6_setCasting 67 = .ok (.putfield 44, 3) := by decide +kernel
theorem dX6_setCasting_70 : decode cX6_setCasting 70 = .ok (.return_, 1) := by decide +kernel
theorem dX6_removeFrames_0 : decode cX6_removeFrames 0 = .ok (.aload_n 0, 1) := by decide +kernel
theorem dX6_removeFrames_1 : decode cX6_removeFrames 1 = .ok (.iload_n 1, 1) := by decide +kernel
theorem dX6_removeFrames_2 : decode cX6_removeFrames 2 = .ok (.invokevirtual 30, 3) := by decide +kernel
theorem dX6_removeFrames_5 : decode cX6_removeFrames 5 = .ok (.ifCond .eq 18, 3) := by decide +kernel
theorem dX6_removeFrames_8 : decode cX6_removeFrames 8 = .ok (.iload_n 2, 1) := by decide +kernel
theorem dX6_removeFrames_9 : decode cX6_removeFrames 9 = .ok (.iconst 1, 1) := by decide +kernel
theorem dX6_removeFrames_10 : decode cX6_removeFrames 10 = .ok (.if_icmp .lt 13, 3) := by decide +kernel
theorem dX6_removeFrames_13 : decode cX6_removeFrames 13 = .ok (.iload_n 2, 1) := by decide +kernel
theorem dX6_removeFrames_14 : decode cX6_removeFrames 14 = .ok (.aload_n 0, 1) := by decide +kernel
theorem dX6_removeFrames_15 : decode cX6_removeFrames 15 = .ok (.getfield 26, 3) := by decide +kernel
theorem dX6_removeFrames_18 : decode cX6_removeFrames 18 = .ok (.iload_n 1, 1) := by decide +kernel
theorem dX6_removeFrames_19 : decode cX6_removeFrames 19 = .ok (.isub, 1) := by decide +kernel
theorem dX6_removeFrames_20 : decode cX6_removeFrames 20 = .ok (.if_icmp .le 4, 3) := by decide +kernel
theorem dX6_removeFrames_23 : decode cX6_removeFrames 23 = .ok (.return_, 1) := by decide +kernel
theorem dX6_removeFrames_24 : decode cX6_removeFrames 24 = .ok (.iload_n 1, 1) := by decide +kernel
theorem dX6_removeFrames_25 : decode cX6_removeFrames 25 = .ok (.istore_n 3, 1) := by decide +kernel
theorem dX6_removeFrames_26 : decode cX6_removeFrames 26 = .ok (.iload_n 3, 1) := by decide +kernel
theorem dX6_removeFrames_27 : decode cX6_removeFrames 27 = .ok (.iload_n 2, 1) := by decide +kernel
theorem dX6_removeFrames_28 : decode cX6_removeFrames 28 = .ok (.iadd, 1) := by decide +kernel
theorem dX6_removeFrames_29 : decode cX6_removeFrames 29 = .ok (.aload_n 0, 1) := by decide +kernel
theorem dX6_removeFrames_30 : decode cX6_removeFrames 30 = .ok (.getfield 26, 3) := by decide +kernel
theorem dX6_removeFrames_33 : decode cX6_removeFrames 33 = .ok (.if_icmp .ge 23, 3) := by decide +kernel
theorem dX6_removeFrames_36 : decode cX6_removeFrames 36 = .ok (.aload_n 0, 1) := by decide +kernel
theorem dX6_removeFrames_37 : decode cX6_removeFrames 37 = .ok (.getfield 11, 3) := by decide +kernel
theorem dX6_removeFrames_40 : decode cX6_removeFrames 40 = .ok (.iload_n 3, 1) := by decide +kernel
theorem dX6_removeFrames_41 : decode cX6_removeFrames 41 = .ok (.aload_n 0, 1) := by decide +kernel
theorem dX6_removeFrames_42 : decode cX6_removeFrames 42 = .ok (.getfield 11, 3) := by decide +kernel
theorem dX6_removeFrames_45 : decode cX6_removeFrames 45 = .ok (.iload_n 3, 1) := by decide +kernel
theorem dX6_removeFrames_46 : decode cX6_removeFrames 46 = .ok (.iload_n 2, 1) := by decide +kernel
theorem dX6_removeFrames_47 : decode cX6_removeFrames 47 = .ok (.iadd, 1) := by decide +kernel
theorem dX6_removeFrames_48 : decode cX6_removeFrames 48 = .ok (.aaload, 1) := by decide +kernel
theorem dX6_removeFrames_49 : decode cX6_removeFrames 49 = .ok (.aastore, 1) := by decide +kernel
theorem dX6_removeFrames_50 : decode cX6_removeFrames 50 = .ok (.iinc 3 1, 3) := by decide +kernel
theorem dX6_removeFrames_53 : decode cX6_removeFrames 53 = .ok (.goto (-27), 3) := by decide +kernel
theorem dX6_removeFrames_56 : decode cX6_removeFrames 56 = .ok (.aload_n 0, 1) := by decide +kernel
theorem dX6_removeFrames_57 : decode cX6_removeFrames 57 = .ok (.dup, 1) := by decide +kernel
theorem dX6_removeFrames_58 : decode cX6_removeFrames 58 = .ok (.getfield 26, 3) := by decide +kernel
theorem dX6_removeFrames_61 : decode cX6_removeFrames 61 = .ok (.iload_n 2, 1) := by decide +kernel
theorem dX6_removeFrames_62 : decode cX6_removeFrames 62 = .ok (.isub, 1) := by decide +kernel
theorem dX6_removeFrames_63 : decode cX6_removeFrames 63 = .ok (.putfield 26, 3) := by decide +kernel
theorem dX6_removeFrames_66 : decode cX6_removeFrames 66 = .ok (.return_, 1) := by decide +kernel
theorem dX6_follows_0 : decode cX6_follows 0 = .ok (.aload_n 0, 1) := by decide +kernel
theorem dX6_follows_1 : decode cX6_follows 1 = .ok (.iload_n 1, 1) := by decide +kernel
theorem dX6_follows_2 : decode cX6_follows 2 = .ok (.invokevirtual 47, 3) := by decide +kernel
theorem dX6_follows_5 : decode cX6_follows 5 = .ok (.astore_n 2, 1) := by decide +kernel
theorem dX6_follows_6 : decode cX6_follows 6 = .ok (.aload_n 2, 1) := by decide +kernel
theorem dX6_follows_7 : decode cX6_follows 7 = .ok (.ifnull 15, 3) := by decide +kernel
theorem dX6_follows_10 : decode cX6_follows 10 = .ok (.aload_n 2, 1) := by decide +kernel
theorem dX6_follows_11 : decode cX6_follows 11 = .ok (.getfield 38, 3) := by decide +kernel
theorem dX6_follows_14 : decode cX6_follows 14 = .ok (.iconst (-1), 1) := by decide +kernel
theorem dX6_follows_15 : decode cX6_follows 15 = .ok (.if_icmp .ne 7, 3) := by decide +kernel
theorem dX6_follows_18 : decode cX6_follows 18 = .ok (.iconst 1, 1) := by decide +kernel
theorem dX6_follows_19 : decode cX6_follows 19 = .ok (.goto 4, 3) := by decide +kernel
theorem dX6_follows_22 : decode cX6_follows 22 = .ok (.iconst 0, 1) := by decide +kernel
theorem dX6_follows_23 : decode cX6_follows 23 = .ok (.ireturn, 1) := by decide +kernel
theorem dX6_keepsUnlikeVersions_0 : decode cX6_keepsUnlikeVersions 0 = .ok (.iconst (-1), 1) := by decide +kernel
theorem dX6_keepsUnlikeVersions_1 : decode cX6_keepsUnlikeVersions 1 = .ok (.istore_n 2, 1) := by decide +kernel
theorem dX6_keepsUnlikeVersions_2 : decode cX6_keepsUnlikeVersions 2 = .ok (.iconst 0, 1) := by decide +kernel
theorem dX6_keepsUnlikeVersions_3 : decode cX6_keepsUnlikeVersions 3 = .ok (.istore_n 3, 1) := by decide +kernel
theorem dX6_keepsUnlikeVersions_4 : decode cX6_keepsUnlikeVersions 4 = .ok (.iload_n 3, 1) := by decide +kernel
theorem dX6_keepsUnlikeVersions_5 : decode cX6_keepsUnlikeVersions 5 = .ok (.aload_n 0, 1) := by decide +kernel
theorem dX6_keepsUnlikeVersions_6 : decode cX6_keepsUnlikeVersions 6 = .ok (.getfield 26, 3) := by decide +kernel
theorem dX6_keepsUnlikeVersions_9 : decode cX6_keepsUnlikeVersions 9 = .ok (.if_icmp .ge 58, 3) := by decide +kernel
theorem dX6_keepsUnlikeVersions_12 : decode cX6_keepsUnlikeVersions 12 = .ok (.aload_n 0, 1) := by decide +kernel
theorem dX6_keepsUnlikeVersions_13 : decode cX6_keepsUnlikeVersions 13 = .ok (.iload_n 3, 1) := by decide +kernel
theorem dX6_keepsUnlikeVersions_14 : decode cX6_keepsUnlikeVersions 14 = .ok (.invokevirtual 51, 3) := by decide +kernel
theorem dX6_keepsUnlikeVersions_17 : decode cX6_keepsUnlikeVersions 17 = .ok (.astore 4, 2) := by decide +kernel
theorem dX6_keepsUnlikeVersions_19 : decode cX6_keepsUnlikeVersions 19 = .ok (.aload 4, 2) := by decide +kernel
theorem dX6_keepsUnlikeVersions_21 : decode cX6_keepsUnlikeVersions 21 = .ok (.ifnonnull 7, 3) := by decide +kernel
theorem dX6_keepsUnlikeVersions_24 : decode cX6_keepsUnlikeVersions 24 = .ok (.iconst (-1), 1) := by decide +kernel
theorem dX6_keepsUnlikeVersions_25 : decode cX6_keepsUnlikeVersions 25 = .ok (.goto 9, 3) := by decide +kernel
theorem dX6_keepsUnlikeVersions_28 : decode cX6_keepsUnlikeVersions 28 = .ok (.aload 4, 2) := by decide +kernel
theorem dX6_keepsUnlikeVersions_30 : decode cX6_keepsUnlikeVersions 30 = .ok (.iload_n 1, 1) := by decide +kernel
theorem dX6_keepsUnlikeVersions_31 : decode cX6_keepsUnlikeVersions 31 = .ok (.invokevirtual 55, 3) := by decide +kernel
theorem dX6_keepsUnlikeVersions_34 : decode cX6_keepsUnlikeVersions 34 = .ok (.istore 5, 2) := by decide +kernel
theorem dX6_keepsUnlikeVersions_36 : decode cX6_keepsUnlikeVersions 36 = .ok (.iload_n 2, 1) := by decide +kernel
theorem dX6_keepsUnlikeVersions_37 : decode cX6_keepsUnlikeVersions 37 = .ok (.iconst (-1), 1) := by decide +kernel
theorem dX6_keepsUnlikeVersions_38 : decode cX6_keepsUnlikeVersions 38 = .ok (.if_icmp .ne 9, 3) := by decide +kernel
theorem dX6_keepsUnlikeVersions_41 : decode cX6_keepsUnlikeVersions 41 = .ok (.iload 5, 2) := by decide +kernel
theorem dX6_keepsUnlikeVersions_43 : decode cX6_keepsUnlikeVersions 43 = .ok (.istore_n 2, 1) := by decide +kernel
theorem dX6_keepsUnlikeVersions_44 : decode cX6_keepsUnlikeVersions 44 = .ok (.goto 17, 3) := by decide +kernel
theorem dX6_keepsUnlikeVersions_47 : decode cX6_keepsUnlikeVersions 47 = .ok (.iload 5, 2) := by decide +kernel
theorem dX6_keepsUnlikeVersions_49 : decode cX6_keepsUnlikeVersions 49 = .ok (.iconst (-1), 1) := by decide +kernel
theorem dX6_keepsUnlikeVersions_50 : decode cX6_keepsUnlikeVersions 50 = .ok (.if_icmp .eq 11, 3) := by decide +kernel
theorem dX6_keepsUnlikeVersions_53 : decode cX6_keepsUnlikeVersions 53 = .ok (.iload 5, 2) := by decide +kernel
theorem dX6_keepsUnlikeVersions_55 : decode cX6_keepsUnlikeVersions 55 = .ok (.iload_n 2, 1) := by decide +kernel
theorem dX6_keepsUnlikeVersions_56 : decode cX6_keepsUnlikeVersions 56 = .ok (.if_icmp .eq 5, 3) := by decide +kernel
theorem dX6_keepsUnlikeVersions_59 : decode cX6_keepsUnlikeVersions 59 = .ok (.iconst 1, 1) := by decide +kernel
theorem dX6_keepsUnlikeVersions_60 : decode cX6_keepsUnlikeVersions 60 = .ok (.ireturn, 1) := by decide +kernel
theorem dX6_keepsUnlikeVersions_61 : decode cX6_keepsUnlikeVersions 61 = .ok (.iinc 3 1, 3) := by decide +kernel
theorem dX6_keepsUnlikeVersions_64 : decode cX6_keepsUnlikeVersions 64 = .ok (.goto (-60), 3) := by decide +kernel
theorem dX6_keepsUnlikeVersions_67 : decode cX6_keepsUnlikeVersions 67 = .ok (.iconst 0, 1) := by decide +kernel
theorem dX6_keepsUnlikeVersions_68 : decode cX6_keepsUnlikeVersions 68 = .ok (.ireturn, 1) := by decide +kernel
theorem dX7_init_0 : decode cX7_init 0 = .ok (.aload_n 0, 1) := by decide +kernel
theorem dX7_init_1 : decode cX7_init 1 = .ok (.invokespecial 1, 3) := by decide +kernel
theorem dX7_init_4 : decode cX7_init 4 = .ok (.aload_n 0, 1) := by decide +kernel
theorem dX7_init_5 : decode cX7_init 5 = .ok (.bipush 8, 2) := by decide +kernel
theorem dX7_init_7 : decode cX7_init 7 = .ok (.anewarray 9, 3) := by decide +kernel
theorem dX7_init_10 : decode cX7_init 10 = .ok (.putfield 11, 3) := by decide +kernel
theorem dX7_init_13 : decode cX7_init 13 = .ok (.aload_n 0, 1) := by decide +kernel
theorem dX7_init_14 : decode cX7_init 14 = .ok (.bipush 8, 2) := by decide +kernel
theorem dX7_init_16 : decode cX7_init 16 = .ok (.anewarray 15, 3) := by decide +kernel
theorem dX7_init_19 : decode cX7_init 19 = .ok (.putfield 17, 3) := by decide +kernel
theorem dX7_init_22 : decode cX7_init 22 = .ok (.aload_n 0, 1) := by decide +kernel
theorem dX7_init_23 : decode cX7_init 23 = .ok (.bipush 40, 2) := by decide +kernel
theorem dX7_init_25 : decode cX7_init 25 = .ok (.anewarray 21, 3) := by decide +kernel
theorem dX7_init_28 : decode cX7_init 28 = .ok (.putfield 23, 3) := by decide +kernel
theorem dX7_init_31 : decode cX7_init 31 = .ok (.return_, 1) := by decide +kernel
theorem dX7_asset_0 : decode cX7_asset 0 = .ok (.aload_n 0, 1) := by decide +kernel
theorem dX7_asset_1 : decode cX7_asset 1 = .ok (.getfield 27, 3) := by decide +kernel
theorem dX7_asset_4 : decode cX7_asset 4 = .ok (.bipush 8, 2) := by decide +kernel
theorem dX7_asset_6 : decode cX7_asset 6 = .ok (.if_icmp .lt 13, 3) := by decide +kernel
theorem dX7_asset_9 : decode cX7_asset 9 = .ok (.new 31, 3) := by decide +kernel
theorem dX7_asset_12 : decode cX7_asset 12 = .ok (.dup, 1) := by decide +kernel
theorem dX7_asset_13 : decode cX7_asset 13 = .ok (.ldc 33, 2) := by decide +kernel
theorem dX7_asset_15 : decode cX7_asset 15 = .ok (.invokespecial 35, 3) := by decide +kernel
theorem dX7_asset_18 : decode cX7_asset 18 = .ok (.athrow, 1) := by decide +kernel
theorem dX7_asset_19 : decode cX7_asset 19 = .ok (.aload_n 0, 1) := by decide +kernel
theorem dX7_asset_20 : decode cX7_asset 20 = .ok (.getfield 11, 3) := by decide +kernel
theorem dX7_asset_23 : decode cX7_asset 23 = .ok (.aload_n 0, 1) := by decide +kernel
theorem dX7_asset_24 : decode cX7_asset 24 = .ok (.getfield 27, 3) := by decide +kernel
theorem dX7_asset_27 : decode cX7_asset 27 = .ok (.new 9, 3) := by decide +kernel
theorem dX7_asset_30 : decode cX7_asset 30 = .ok (.dup, 1) := by decide +kernel
theorem dX7_asset_31 : decode cX7_asset 31 = .ok (.invokespecial 38, 3) := by decide +kernel
theorem dX7_asset_34 : decode cX7_asset 34 = .ok (.aastore, 1) := by decide +kernel
theorem dX7_asset_35 : decode cX7_asset 35 = .ok (.aload_n 0, 1) := by decide +kernel
theorem dX7_asset_36 : decode cX7_asset 36 = .ok (.dup, 1) := by decide +kernel
theorem dX7_asset_37 : decode cX7_asset 37 = .ok (.getfield 27, 3) := by decide +kernel
theorem dX7_asset_40 : decode cX7_asset 40 = .ok (.dup_x1, 1) := by decide +kernel
theorem dX7_asset_41 : decode cX7_asset 41 = .ok (.iconst 1, 1) := by decide +kernel
theorem dX7_asset_42 : decode cX7_asset 42 = .ok (.iadd, 1) := by decide +kernel
theorem dX7_asset_43 : decode cX7_asset 43 = .ok (.putfield 27, 3) := by decide +kernel
theorem dX7_asset_46 : decode cX7_asset 46 = .ok (.ireturn, 1) := by decide +kernel
theorem dX7_bone_0 : decode cX7_bone 0 = .ok (.aload_n 0, 1) := by decide +kernel
theorem dX7_bone_1 : decode cX7_bone 1 = .ok (.iload_n 1, 1) := by decide +kernel
theorem dX7_bone_2 : decode cX7_bone 2 = .ok (.invokevirtual 39, 3) := by decide +kernel
theorem dX7_bone_5 : decode cX7_bone 5 = .ok (.astore_n 3, 1) := by decide +kernel
theorem dX7_bone_6 : decode cX7_bone 6 = .ok (.aload_n 3, 1) := by decide +kernel
theorem dX7_bone_7 : decode cX7_bone 7 = .ok (.ifnull 19, 3) := by decide +kernel
theorem dX7_bone_10 : decode cX7_bone 10 = .ok (.iload_n 2, 1) := by decide +kernel
theorem dX7_bone_11 : decode cX7_bone 11 = .ok (.iconst (-1), 1) := by decide +kernel
theorem dX7_bone_12 : decode cX7_bone 12 = .ok (.if_icmp .eq 24, 3) := by decide +kernel
theorem dX7_bone_15 : decode cX7_bone 15 = .ok (.aload_n 3, 1) := by decide +kernel
theorem dX7_bone_16 : decode cX7_bone 16 = .ok (.getfield 43, 3) := by decide +kernel
theorem dX7_bone_19 : decode cX7_bone 19 = .ok (.iload_n 2, 1) := by decide +kernel
theorem dX7_bone_20 : decode cX7_bone 20 = .ok (.invokevirtual 47, 3) := by decide +kernel
theorem dX7_bone_23 : decode cX7_bone 23 = .ok (.ifCond .ne 13, 3) := by decide +kernel
theorem dX7_bone_26 : decode cX7_bone 26 = .ok (.new 53, 3) := by decide +kernel
theorem dX7_bone_29 : decode cX7_bone 29 = .ok (.dup, 1) := by decide +kernel
theorem dX7_bone_30 : decode cX7_bone 30 = .ok (.ldc 55, 2) := by decide +kernel
theorem dX7_bone_32 : decode cX7_bone 32 = .ok (.invokespecial 57, 3) := by decide +kernel
theorem dX7_bone_35 : decode cX7_bone 35 = .ok (.athrow, 1) := by decide +kernel
theorem dX7_bone_36 : decode cX7_bone 36 = .ok (.aload_n 3, 1) := by decide +kernel
theorem dX7_bone_37 : decode cX7_bone 37 = .ok (.getfield 43, 3) := by decide +kernel
theorem dX7_bone_40 : decode cX7_bone 40 = .ok (.getfield 58, 3) := by decide +kernel
theorem dX7_bone_43 : decode cX7_bone 43 = .ok (.bipush 10, 2) := by decide +kernel
theorem dX7_bone_45 : decode cX7_bone 45 = .ok (.if_icmp .lt 13, 3) := by decide +kernel
theorem dX7_bone_48 : decode cX7_bone 48 = .ok (.new 31, 3) := by decide +kernel
theorem dX7_bone_51 : decode cX7_bone 51 = .ok (.dup, 1) := by decide +kernel
theorem dX7_bone_52 : decode cX7_bone 52 = .ok (.ldc 61, 2) := by decide +kernel
theorem dX7_bone_54 : decode cX7_bone 54 = .ok (.invokespecial 35, 3) := by decide +kernel
theorem dX7_bone_57 : decode cX7_bone 57 = .ok (.athrow, 1) := by decide +kernel
theorem dX7_bone_58 : decode cX7_bone 58 = .ok (.aload_n 3, 1) := by decide +kernel
theorem dX7_bone_59 : decode cX7_bone 59 = .ok (.getfield 43, 3) := by decide +kernel
theorem dX7_bone_62 : decode cX7_bone 62 = .ok (.iload_n 2, 1) := by decide +kernel
theorem dX7_bone_63 : decode cX7_bone 63 = .ok (.invokevirtual 63, 3) := by decide +kernel
theorem dX7_bone_66 : decode cX7_bone 66 = .ok (.ireturn, 1) := by decide +kernel
theorem dX7_key_0 : decode cX7_key 0 = .ok (.aload_n 0, 1) := by decide +kernel
theorem dX7_key_1 : decode cX7_key 1 = .ok (.iload_n 1, 1) := by decide +kernel
theorem dX7_key_2 : decode cX7_key 2 = .ok (.iload_n 2, 1) := by decide +kernel
theorem dX7_key_3 : decode cX7_key 3 = .ok (.invokevirtual 67, 3) := by decide +kernel
theorem dX7_key_6 : decode cX7_key 6 = .ok (.astore 6, 2) := by decide +kernel
theorem dX7_key_8 : decode cX7_key 8 = .ok (.aload 6, 2) := by decide +kernel
theorem dX7_key_10 : decode cX7_key 10 = .ok (.ifnonnull 13, 3) := by decide +kernel
theorem dX7_key_13 : decode cX7_key 13 = .ok (.new 53, 3) := by decide +kernel
theorem dX7_key_16 : decode cX7_key 16 = .ok (.dup, 1) := by decide +kernel
theorem dX7_key_17 : decode cX7_key 17 = .ok (.ldc 71, 2) := by decide +kernel
theorem dX7_key_19 : decode cX7_key 19 = .ok (.invokespecial 57, 3) := by decide +kernel
theorem dX7_key_22 : decode cX7_key 22 = .ok (.athrow, 1) := by decide +kernel
theorem dX7_key_23 : decode cX7_key 23 = .ok (.iload_n 3, 1) := by decide +kernel
theorem dX7_key_24 : decode cX7_key 24 = .ok (.invokestatic 73, 3) := by decide +kernel
theorem dX7_key_27 : decode cX7_key 27 = .ok (.ifCond .eq 30, 3) := by decide +kernel
theorem dX7_key_30 : decode cX7_key 30 = .ok (.iload 4, 2) := by decide +kernel
theorem dX7_key_32 : decode cX7_key 32 = .ok (.sipush (-999), 3) := by decide +kernel
theorem dX7_key_35 : decode cX7_key 35 = .ok (.if_icmp .lt 22, 3) := by decide +kernel
theorem dX7_key_38 : decode cX7_key 38 = .ok (.iload 4, 2) := by decide +kernel
theorem dX7_key_40 : decode cX7_key 40 = .ok (.sipush 999, 3) := by decide +kernel
theorem dX7_key_43 : decode cX7_key 43 = .ok (.if_icmp .gt 14, 3) := by decide +kernel
theorem dX7_key_46 : decode cX7_key 46 = .ok (.iload 5, 2) := by decide +kernel
theorem dX7_key_48 : decode cX7_key 48 = .ok (.ifCond .lt 9, 3) := by decide +kernel
theorem dX7_key_51 : decode cX7_key 51 = .ok (.iload 5, 2) := by decide +kernel
theorem dX7_key_53 : decode cX7_key 53 = .ok (.iconst 2, 1) := by decide +kernel
theorem dX7_key_54 : decode cX7_key 54 = .ok (.if_icmp .le 13, 3) := by decide +kernel
theorem dX7_key_57 : decode cX7_key 57 = .ok (.new 76, 3) := by decide +kernel
theorem dX7_key_60 : decode cX7_key 60 = .ok (.dup, 1) := by decide +kernel
theorem dX7_key_61 : decode cX7_key 61 = .ok (.ldc 78, 2) := by decide +kernel
theorem dX7_key_63 : decode cX7_key 63 = .ok (.invokespecial 80, 3) := by decide +kernel
theorem dX7_key_66 : decode cX7_key 66 = .ok (.athrow, 1) := by decide +kernel
theorem dX7_key_67 : decode cX7_key 67 = .ok (.aload 6, 2) := by decide +kernel
theorem dX7_key_69 : decode cX7_key 69 = .ok (.iload_n 3, 1) := by decide +kernel
theorem dX7_key_70 : decode cX7_key 70 = .ok (.invokevirtual 81, 3) := by decide +kernel
theorem dX7_key_73 : decode cX7_key 73 = .ok (.ifCond .ne 13, 3) := by decide +kernel
theorem dX7_key_76 : decode cX7_key 76 = .ok (.new 31, 3) := by decide +kernel
theorem dX7_key_79 : decode cX7_key 79 = .ok (.dup, 1) := by decide +kernel
theorem dX7_key_80 : decode cX7_key 80 = .ok (.ldc 86, 2) := by decide +kernel
theorem dX7_key_82 : decode cX7_key 82 = .ok (.invokespecial 35, 3) := by decide +kernel
theorem dX7_key_85 : decode cX7_key 85 = .ok (.athrow, 1) := by decide +kernel
theorem dX7_key_86 : decode cX7_key 86 = .ok (.aload 6, 2) := by decide +kernel
theorem dX7_key_88 : decode cX7_key 88 = .ok (.iload_n 3, 1) := by decide +kernel
theorem dX7_key_89 : decode cX7_key 89 = .ok (.iload 4, 2) := by decide +kernel
theorem dX7_key_91 : decode cX7_key 91 = .ok (.iload 5, 2) := by decide +kernel
theorem dX7_key_93 : decode cX7_key 93 = .ok (.invokevirtual 88, 3) := by decide +kernel
theorem dX7_key_96 : decode cX7_key 96 = .ok (.aload 6, 2) := by decide +kernel
theorem dX7_key_98 : decode cX7_key 98 = .ok (.getfield 92, 3) := by decide +kernel
theorem dX7_key_101 : decode cX7_key 101 = .ok (.ireturn, 1) := by decide +kernel
theorem dX7_unkey_0 : decode cX7_unkey 0 = .ok (.aload_n 0, 1) := by decide +kernel
theorem dX7_unkey_1 : decode cX7_unkey 1 = .ok (.iload_n 1, 1) := by decide +kernel
theorem dX7_unkey_2 : decode cX7_unkey 2 = .ok (.iload_n 2, 1) := by decide +kernel
theorem dX7_unkey_3 : decode cX7_unkey 3 = .ok (.invokevirtual 67, 3) := by decide +kernel
theorem dX7_unkey_6 : decode cX7_unkey 6 = .ok (.astore 4, 2) := by decide +kernel
theorem dX7_unkey_8 : decode cX7_unkey 8 = .ok (.aload 4, 2) := by decide +kernel
theorem dX7_unkey_10 : decode cX7_unkey 10 = .ok (.ifnonnull 13, 3) := by decide +kernel
theorem dX7_unkey_13 : decode cX7_unkey 13 = .ok (.new 53, 3) := by decide +kernel
theorem dX7_unkey_16 : decode cX7_unkey 16 = .ok (.dup, 1) := by decide +kernel
theorem dX7_unkey_17 : decode cX7_unkey 17 = .ok (.ldc 71, 2) := by decide +kernel
theorem dX7_unkey_19 : decode cX7_unkey 19 = .ok (.invokespecial 57, 3) := by decide +kernel
theorem dX7_unkey_22 : decode cX7_unkey 22 = .ok (.athrow, 1) := by decide +kernel
theorem dX7_unkey_23 : decode cX7_unkey 23 = .ok (.iload_n 3, 1) := by decide +kernel
theorem dX7_unkey_24 : decode cX7_unkey 24 = .ok (.invokestatic 73, 3) := by decide +kernel
theorem dX7_unkey_27 : decode cX7_unkey 27 = .ok (.ifCond .ne 13, 3) := by decide +kernel
theorem dX7_unkey_30 : decode cX7_unkey 30 = .ok (.new 76, 3) := by decide +kernel
theorem dX7_unkey_33 : decode cX7_unkey 33 = .ok (.dup, 1) := by decide +kernel
theorem dX7_unkey_34 : decode cX7_unkey 34 = .ok (.ldc 93, 2) := by decide +kernel
theorem dX7_unkey_36 : decode cX7_unkey 36 = .ok (.invokespecial 80, 3) := by decide +kernel
theorem dX7_unkey_39 : decode cX7_unkey 39 = .ok (.athrow, 1) := by decide +kernel
theorem dX7_unkey_40 : decode cX7_unkey 40 = .ok (.aload 4, 2) := by decide +kernel
theorem dX7_unkey_42 : decode cX7_unkey 42 = .ok (.iload_n 3, 1) := by decide +kernel
theorem dX7_unkey_43 : decode cX7_unkey 43 = .ok (.invokevirtual 95, 3) := by decide +kernel
theorem dX7_unkey_46 : decode cX7_unkey 46 = .ok (.ireturn, 1) := by decide +kernel
theorem dX7_publish_0 : decode cX7_publish 0 = .ok (.aload_n 0, 1) := by decide +kernel
theorem dX7_publish_1 : decode cX7_publish 1 = .ok (.iload_n 1, 1) := by decide +kernel
theorem dX7_publish_2 : decode cX7_publish 2 = .ok (.invokevirtual 39, 3) := by decide +kernel
theorem dX7_publish_5 : decode cX7_publish 5 = .ok (.astore_n 2, 1) := by decide +kernel
theorem dX7_publish_6 : decode cX7_publish 6 = .ok (.aload_n 2, 1) := by decide +kernel
theorem dX7_publish_7 : decode cX7_publish 7 = .ok (.ifnonnull 13, 3) := by decide +kernel
theorem dX7_publish_10 : decode cX7_publish 10 = .ok (.new 53, 3) := by decide +kernel
theorem dX7_publish_13 : decode cX7_publish 13 = .ok (.dup, 1) := by decide +kernel
theorem dX7_publish_14 : decode cX7_publish 14 = .ok (.ldc 98, 2) := by decide +kernel
theorem dX7_publish_16 : decode cX7_publish 16 = .ok (.invokespecial 57, 3) := by decide +kernel
theorem dX7_publish_19 : decode cX7_publish 19 = .ok (.athrow, 1) := by decide +kernel
theorem dX7_publish_20 : decode cX7_publish 20 = .ok (.aload_n 2, 1) := by decide +kernel
theorem dX7_publish_21 : decode cX7_publish 21 = .ok (.getfield 100, 3) := by decide +kernel
theorem dX7_publish_24 : decode cX7_publish 24 = .ok (.bipush 12, 2) := by decide +kernel
theorem dX7_publish_26 : decode cX7_publish 26 = .ok (.if_icmp .ge 13, 3) := by decide +kernel
theorem dX7_publish_29 : decode cX7_publish 29 = .ok (.aload_n 2, 1) := by decide +kernel
theorem dX7_publish_30 : decode cX7_publish 30 = .ok (.getfield 43, 3) := by decide +kernel
theorem dX7_publish_33 : decode cX7_publish 33 = .ok (.getfield 58, 3) := by decide +kernel
theorem dX7_publish_36 : decode cX7_publish 36 = .ok (.ifCond .ne 13, 3) := by decide +kernel
theorem dX7_publish_39 : decode cX7_publish 39 = .ok (.new 31, 3) := by decide +kernel
theorem dX7_publish_42 : decode cX7_publish 42 = .ok (.dup, 1) := by decide +kernel
theorem dX7_publish_43 : decode cX7_publish 43 = .ok (.ldc 103, 2) := by decide +kernel
theorem dX7_publish_45 : decode cX7_publish 45 = .ok (.invokespecial 35, 3) := by decide +kernel
theorem dX7_publish_48 : decode cX7_publish 48 = .ok (.athrow, 1) := by decide +kernel
theorem dX7_publish_49 : decode cX7_publish 49 = .ok (.aload_n 2, 1) := by decide +kernel
theorem dX7_publish_50 : decode cX7_publish 50 = .ok (.invokevirtual 105, 3) := by decide +kernel
theorem dX7_publish_53 : decode cX7_publish 53 = .ok (.ireturn, 1) := by decide +kernel
theorem dX7_pose_0 : decode cX7_pose 0 = .ok (.aload_n 0, 1) := by decide +kernel
theorem dX7_pose_1 : decode cX7_pose 1 = .ok (.iload_n 1, 1) := by decide +kernel
theorem dX7_pose_2 : decode cX7_pose 2 = .ok (.iload_n 2, 1) := by decide +kernel
theorem dX7_pose_3 : decode cX7_pose 3 = .ok (.invokevirtual 109, 3) := by decide +kernel
theorem dX7_pose_6 : decode cX7_pose 6 = .ok (.astore 5, 2) := by decide +kernel
theorem dX7_pose_8 : decode cX7_pose 8 = .ok (.aload 5, 2) := by decide +kernel
theorem dX7_pose_10 : decode cX7_pose 10 = .ok (.ifnull 12, 3) := by decide +kernel
theorem dX7_pose_13 : decode cX7_pose 13 = .ok (.aload 5, 2) := by decide +kernel
theorem dX7_pose_15 : decode cX7_pose 15 = .ok (.iload_n 3, 1) := by decide +kernel
theorem dX7_pose_16 : decode cX7_pose 16 = .ok (.invokevirtual 47, 3) := by decide +kernel
theorem dX7_pose_19 : decode cX7_pose 19 = .ok (.ifCond .ne 13, 3) := by decide +kernel
theorem dX7_pose_22 : decode cX7_pose 22 = .ok (.new 53, 3) := by decide +kernel
theorem dX7_pose_25 : decode cX7_pose 25 = .ok (.dup, 1) := by decide +kernel
theorem dX7_pose_26 : decode cX7_pose 26 = .ok (.ldc 113, 2) := by decide +kernel
theorem dX7_pose_28 : decode cX7_pose 28 = .ok (.invokespecial 57, 3) := by decide +kernel
theorem dX7_pose_31 : decode cX7_pose 31 = .ok (.athrow, 1) := by decide +kernel
theorem dX7_pose_32 : decode cX7_pose 32 = .ok (.iload 4, 2) := by decide +kernel
theorem dX7_pose_34 : decode cX7_pose 34 = .ok (.invokestatic 73, 3) := by decide +kernel
theorem dX7_pose_37 : decode cX7_pose 37 = .ok (.ifCond .ne 13, 3) := by decide +kernel
theorem dX7_pose_40 : decode cX7_pose 40 = .ok (.new 76, 3) := by decide +kernel
theorem dX7_pose_43 : decode cX7_pose 43 = .ok (.dup, 1) := by decide +kernel
theorem dX7_pose_44 : decode cX7_pose 44 = .ok (.ldc 93, 2) := by decide +kernel
theorem dX7_pose_46 : decode cX7_pose 46 = .ok (.invokespecial 80, 3) := by decide +kernel
theorem dX7_pose_49 : decode cX7_pose 49 = .ok (.athrow, 1) := by decide +kernel
theorem dX7_pose_50 : decode cX7_pose 50 = .ok (.aload 5, 2) := by decide +kernel
theorem dX7_pose_52 : decode cX7_pose 52 = .ok (.iload_n 3, 1) := by decide +kernel
theorem dX7_pose_53 : decode cX7_pose 53 = .ok (.iload 4, 2) := by decide +kernel
theorem dX7_pose_55 : decode cX7_pose 55 = .ok (.invokevirtual 115, 3) := by decide +kernel
theorem dX7_pose_58 : decode cX7_pose 58 = .ok (.ireturn, 1) := by decide +kernel
theorem dX7_poseAnew_0 : decode cX7_poseAnew 0 = .ok (.aload_n 0, 1) := by decide +kernel
theorem dX7_poseAnew_1 : decode cX7_poseAnew 1 = .ok (.iload_n 1, 1) := by decide +kernel
theorem dX7_poseAnew_2 : decode cX7_poseAnew 2 = .ok (.iload_n 2, 1) := by decide +kernel
theorem dX7_poseAnew_3 : decode cX7_poseAnew 3 = .ok (.invokevirtual 109, 3) := by decide +kernel
theorem dX7_poseAnew_6 : decode cX7_poseAnew 6 = .ok (.astore 5, 2) := by decide +kernel
theorem dX7_poseAnew_8 : decode cX7_poseAnew 8 = .ok (.aload 5, 2) := by decide +kernel
theorem dX7_poseAnew_10 : decode cX7_poseAnew 10 = .ok (.ifnull 12, 3) := by decide +kernel
theorem dX7_poseAnew_13 : decode cX7_poseAnew 13 = .ok (.aload 5, 2) := by decide +kernel
theorem dX7_poseAnew_15 : decode cX7_poseAnew 15 = .ok (.iload_n 3, 1) := by decide +kernel
theorem dX7_poseAnew_16 : decode cX7_poseAnew 16 = .ok (.invokevirtual 47, 3) := by decide +kernel
theorem dX7_poseAnew_19 : decode cX7_poseAnew 19 = .ok (.ifCond .ne 13, 3) := by decide +kernel
theorem dX7_poseAnew_22 : decode cX7_poseAnew 22 = .ok (.new 53, 3) := by decide +kernel
theorem dX7_poseAnew_25 : decode cX7_poseAnew 25 = .ok (.dup, 1) := by decide +kernel
theorem dX7_poseAnew_26 : decode cX7_poseAnew 26 = .ok (.ldc 113, 2) := by decide +kernel
theorem dX7_poseAnew_28 : decode cX7_poseAnew 28 = .ok (.invokespecial 57, 3) := by decide +kernel
theorem dX7_poseAnew_31 : decode cX7_poseAnew 31 = .ok (.athrow, 1) := by decide +kernel
theorem dX7_poseAnew_32 : decode cX7_poseAnew 32 = .ok (.iload 4, 2) := by decide +kernel
theorem dX7_poseAnew_34 : decode cX7_poseAnew 34 = .ok (.invokestatic 73, 3) := by decide +kernel
theorem dX7_poseAnew_37 : decode cX7_poseAnew 37 = .ok (.ifCond .ne 13, 3) := by decide +kernel
theorem dX7_poseAnew_40 : decode cX7_poseAnew 40 = .ok (.new 76, 3) := by decide +kernel
theorem dX7_poseAnew_43 : decode cX7_poseAnew 43 = .ok (.dup, 1) := by decide +kernel
theorem dX7_poseAnew_44 : decode cX7_poseAnew 44 = .ok (.ldc 93, 2) := by decide +kernel
theorem dX7_poseAnew_46 : decode cX7_poseAnew 46 = .ok (.invokespecial 80, 3) := by decide +kernel
theorem dX7_poseAnew_49 : decode cX7_poseAnew 49 = .ok (.athrow, 1) := by decide +kernel
theorem dX7_poseAnew_50 : decode cX7_poseAnew 50 = .ok (.aload 5, 2) := by decide +kernel
theorem dX7_poseAnew_52 : decode cX7_poseAnew 52 = .ok (.iload_n 3, 1) := by decide +kernel
theorem dX7_poseAnew_53 : decode cX7_poseAnew 53 = .ok (.iload 4, 2) := by decide +kernel
theorem dX7_poseAnew_55 : decode cX7_poseAnew 55 = .ok (.invokevirtual 119, 3) := by decide +kernel
theorem dX7_poseAnew_58 : decode cX7_poseAnew 58 = .ok (.ireturn, 1) := by decide +kernel
theorem dX7_ofAsset_0 : decode cX7_ofAsset 0 = .ok (.aload_n 0, 1) := by decide +kernel
theorem dX7_ofAsset_1 : decode cX7_ofAsset 1 = .ok (.iload_n 1, 1) := by decide +kernel
theorem dX7_ofAsset_2 : decode cX7_ofAsset 2 = .ok (.invokevirtual 39, 3) := by decide +kernel
theorem dX7_ofAsset_5 : decode cX7_ofAsset 5 = .ok (.astore_n 3, 1) := by decide +kernel
theorem dX7_ofAsset_6 : decode cX7_ofAsset 6 = .ok (.aload_n 3, 1) := by decide +kernel
theorem dX7_ofAsset_7 : decode cX7_ofAsset 7 = .ok (.ifnonnull 13, 3) := by decide +kernel
theorem dX7_ofAsset_10 : decode cX7_ofAsset 10 = .ok (.new 53, 3) := by decide +kernel
theorem dX7_ofAsset_13 : decode cX7_ofAsset 13 = .ok (.dup, 1) := by decide +kernel
theorem dX7_ofAsset_14 : decode cX7_ofAsset 14 = .ok (.ldc 98, 2) := by decide +kernel
theorem dX7_ofAsset_16 : decode cX7_ofAsset 16 = .ok (.invokespecial 57, 3) := by decide +kernel
theorem dX7_ofAsset_19 : decode cX7_ofAsset 19 = .ok (.athrow, 1) := by decide +kernel
theorem dX7_ofAsset_20 : decode cX7_ofAsset 20 = .ok (.iload_n 2, 1) := by decide +kernel
theorem dX7_ofAsset_21 : decode cX7_ofAsset 21 = .ok (.tableswitch 46 0 2 #[27, 35, 40], 27) := by decide +kernel
theorem dX7_ofAsset_48 : decode cX7_ofAsset 48 = .ok (.aload_n 3, 1) := by decide +kernel
theorem dX7_ofAsset_49 : decode cX7_ofAsset 49 = .ok (.getfield 43, 3) := by decide +kernel
theorem dX7_ofAsset_52 : decode cX7_ofAsset 52 = .ok (.getfield 58, 3) := by decide +kernel
theorem dX7_ofAsset_55 : decode cX7_ofAsset 55 = .ok (.ireturn, 1) := by decide +kernel
theorem dX7_ofAsset_56 : decode cX7_ofAsset 56 = .ok (.aload_n 3, 1) := by decide +kernel
theorem dX7_ofAsset_57 : decode cX7_ofAsset 57 = .ok (.getfield 100, 3) := by decide +kernel
theorem dX7_ofAsset_60 : decode cX7_ofAsset 60 = .ok (.ireturn, 1) := by decide +kernel
theorem dX7_ofAsset_61 : decode cX7_ofAsset 61 = .ok (.aload_n 0, 1) := by decide +kernel
theorem dX7_ofAsset_62 : decode cX7_ofAsset 62 = .ok (.iload_n 1, 1) := by decide +kernel
theorem dX7_ofAsset_63 : decode cX7_ofAsset 63 = .ok (.invokevirtual 122, 3) := by decide +kernel
theorem dX7_ofAsset_66 : decode cX7_ofAsset 66 = .ok (.ireturn, 1) := by decide +kernel
theorem dX7_ofAsset_67 : decode cX7_ofAsset 67 = .ok (.new 53, 3) := by decide +kernel
theorem dX7_ofAsset_70 : decode cX7_ofAsset 70 = .ok (.dup, 1) := by decide +kernel
theorem dX7_ofAsset_71 : decode cX7_ofAsset 71 = .ok (.ldc 125, 2) := by decide +kernel
theorem dX7_ofAsset_73 : decode cX7_ofAsset 73 = .ok (.invokespecial 57, 3) := by decide +kernel
theorem dX7_ofAsset_76 : decode cX7_ofAsset 76 = .ok (.athrow, 1) := by decide +kernel
theorem dX7_scene_0 : decode cX7_scene 0 = .ok (.iload_n 1, 1) := by decide +kernel
theorem dX7_scene_1 : decode cX7_scene 1 = .ok (.iconst 1, 1) := by decide +kernel
theorem dX7_scene_2 : decode cX7_scene 2 = .ok (.if_icmp .lt 9, 3) := by decide +kernel
theorem dX7_scene_5 : decode cX7_scene 5 = .ok (.iload_n 1, 1) := by decide +kernel
theorem dX7_scene_6 : decode cX7_scene 6 = .ok (.bipush 40, 2) := by decide +kernel
theorem dX7_scene_8 : decode cX7_scene 8 = .ok (.if_icmp .le 13, 3) := by decide +kernel
theorem dX7_scene_11 : decode cX7_scene 11 = .ok (.new 76, 3) := by decide +kernel
theorem dX7_scene_14 : decode cX7_scene 14 = .ok (.dup, 1) := by decide +kernel
theorem dX7_scene_15 : decode cX7_scene 15 = .ok (.ldc 127, 2) := by decide +kernel
theorem dX7_scene_17 : decode cX7_scene 17 = .ok (.invokespecial 80, 3) := by decide +kernel
theorem dX7_scene_20 : decode cX7_scene 20 = .ok (.athrow, 1) := by decide +kernel
theorem dX7_scene_21 : decode cX7_scene 21 = .ok (.aload_n 0, 1) := by decide +kernel
theorem dX7_scene_22 : decode cX7_scene 22 = .ok (.getfield 129, 3) := by decide +kernel
theorem dX7_scene_25 : decode cX7_scene 25 = .ok (.bipush 8, 2) := by decide +kernel
theorem dX7_scene_27 : decode cX7_scene 27 = .ok (.if_icmp .lt 13, 3) := by decide +kernel
theorem dX7_scene_30 : decode cX7_scene 30 = .ok (.new 31, 3) := by decide +kernel
theorem dX7_scene_33 : decode cX7_scene 33 = .ok (.dup, 1) := by decide +kernel
theorem dX7_scene_34 : decode cX7_scene 34 = .ok (.ldc 132, 2) := by decide +kernel
theorem dX7_scene_36 : decode cX7_scene 36 = .ok (.invokespecial 35, 3) := by decide +kernel
theorem dX7_scene_39 : decode cX7_scene 39 = .ok (.athrow, 1) := by decide +kernel
theorem dX7_scene_40 : decode cX7_scene 40 = .ok (.aload_n 0, 1) := by decide +kernel
theorem dX7_scene_41 : decode cX7_scene 41 = .ok (.getfield 17, 3) := by decide +kernel
theorem dX7_scene_44 : decode cX7_scene 44 = .ok (.aload_n 0, 1) := by decide +kernel
theorem dX7_scene_45 : decode cX7_scene 45 = .ok (.getfield 129, 3) := by decide +kernel
theorem dX7_scene_48 : decode cX7_scene 48 = .ok (.new 15, 3) := by decide +kernel
theorem dX7_scene_51 : decode cX7_scene 51 = .ok (.dup, 1) := by decide +kernel
theorem dX7_scene_52 : decode cX7_scene 52 = .ok (.iload_n 1, 1) := by decide +kernel
theorem dX7_scene_53 : decode cX7_scene 53 = .ok (.invokespecial 134, 3) := by decide +kernel
theorem dX7_scene_56 : decode cX7_scene 56 = .ok (.aastore, 1) := by decide +kernel
theorem dX7_scene_57 : decode cX7_scene 57 = .ok (.aload_n 0, 1) := by decide +kernel
theorem dX7_scene_58 : decode cX7_scene 58 = .ok (.dup, 1) := by decide +kernel
theorem dX7_scene_59 : decode cX7_scene 59 = .ok (.getfield 129, 3) := by decide +kernel
theorem dX7_scene_62 : decode cX7_scene 62 = .ok (.dup_x1, 1) := by decide +kernel
theorem dX7_scene_63 : decode cX7_scene 63 = .ok (.iconst 1, 1) := by decide +kernel
theorem dX7_scene_64 : decode cX7_scene 64 = .ok (.iadd, 1) := by decide +kernel
theorem dX7_scene_65 : decode cX7_scene 65 = .ok (.putfield 129, 3) := by decide +kernel
theorem dX7_scene_68 : decode cX7_scene 68 = .ok (.ireturn, 1) := by decide +kernel
theorem dX7_cast_0 : decode cX7_cast 0 = .ok (.aload_n 0, 1) := by decide +kernel
theorem dX7_cast_1 : decode cX7_cast 1 = .ok (.iload_n 1, 1) := by decide +kernel
theorem dX7_cast_2 : decode cX7_cast 2 = .ok (.invokevirtual 137, 3) := by decide +kernel
theorem dX7_cast_5 : decode cX7_cast 5 = .ok (.astore 6, 2) := by decide +kernel
theorem dX7_cast_7 : decode cX7_cast 7 = .ok (.aload 6, 2) := by decide +kernel
theorem dX7_cast_9 : decode cX7_cast 9 = .ok (.ifnull 12, 3) := by decide +kernel
theorem dX7_cast_12 : decode cX7_cast 12 = .ok (.aload_n 0, 1) := by decide +kernel
theorem dX7_cast_13 : decode cX7_cast 13 = .ok (.iload_n 2, 1) := by decide +kernel
theorem dX7_cast_14 : decode cX7_cast 14 = .ok (.iload_n 3, 1) := by decide +kernel
theorem dX7_cast_15 : decode cX7_cast 15 = .ok (.invokevirtual 109, 3) := by decide +kernel
theorem dX7_cast_18 : decode cX7_cast 18 = .ok (.ifnonnull 13, 3) := by decide +kernel
theorem dX7_cast_21 : decode cX7_cast 21 = .ok (.new 53, 3) := by decide +kernel
theorem dX7_cast_24 : decode cX7_cast 24 = .ok (.dup, 1) := by decide +kernel
theorem dX7_cast_25 : decode cX7_cast 25 = .ok (.ldc 141, 2) := by decide +kernel
theorem dX7_cast_27 : decode cX7_cast 27 = .ok (.invokespecial 57, 3) := by decide +kernel
theorem dX7_cast_30 : decode cX7_cast 30 = .ok (.athrow, 1) := by decide +kernel
theorem dX7_cast_31 : decode cX7_cast 31 = .ok (.iload 4, 2) := by decide +kernel
theorem dX7_cast_33 : decode cX7_cast 33 = .ok (.invokestatic 143, 3) := by decide +kernel
theorem dX7_cast_36 : decode cX7_cast 36 = .ok (.ifCond .eq 18, 3) := by decide +kernel
theorem dX7_cast_39 : decode cX7_cast 39 = .ok (.iload 5, 2) := by decide +kernel
theorem dX7_cast_41 : decode cX7_cast 41 = .ok (.iload 4, 2) := by decide +kernel
theorem dX7_cast_43 : decode cX7_cast 43 = .ok (.if_icmp .lt 11, 3) := by decide +kernel
theorem dX7_cast_46 : decode cX7_cast 46 = .ok (.iload 5, 2) := by decide +kernel
theorem dX7_cast_48 : decode cX7_cast 48 = .ok (.invokestatic 143, 3) := by decide +kernel
theorem dX7_cast_51 : decode cX7_cast 51 = .ok (.ifCond .ne 13, 3) := by decide +kernel
theorem dX7_cast_54 : decode cX7_cast 54 = .ok (.new 76, 3) := by decide +kernel
theorem dX7_cast_57 : decode cX7_cast 57 = .ok (.dup, 1) := by decide +kernel
theorem dX7_cast_58 : decode cX7_cast 58 = .ok (.ldc 146, 2) := by decide +kernel
theorem dX7_cast_60 : decode cX7_cast 60 = .ok (.invokespecial 80, 3) := by decide +kernel
theorem dX7_cast_63 : decode cX7_cast 63 = .ok (.athrow, 1) := by decide +kernel
theorem dX7_cast_64 : decode cX7_cast 64 = .ok (.aload 6, 2) := by decide +kernel
theorem dX7_cast_66 : decode cX7_cast 66 = .ok (.iload_n 2, 1) := by decide +kernel
theorem dX7_cast_67 : decode cX7_cast 67 = .ok (.iload_n 3, 1) := by decide +kernel
theorem dX7_cast_68 : decode cX7_cast 68 = .ok (.iload 4, 2) := by decide +kernel
theorem dX7_cast_70 : decode cX7_cast 70 = .ok (.iload 5, 2) := by decide +kernel
theorem dX7_cast_72 : decode cX7_cast 72 = .ok (.invokevirtual 148, 3) := by decide +kernel
theorem dX7_cast_75 : decode cX7_cast 75 = .ok (.aload 6, 2) := by decide +kernel
theorem dX7_cast_77 : decode cX7_cast 77 = .ok (.getfield 152, 3) := by decide +kernel
theorem dX7_cast_80 : decode cX7_cast 80 = .ok (.ireturn, 1) := by decide +kernel
theorem dX7_cut_0 : decode cX7_cut 0 = .ok (.aload_n 0, 1) := by decide +kernel
theorem dX7_cut_1 : decode cX7_cut 1 = .ok (.iload_n 1, 1) := by decide +kernel
theorem dX7_cut_2 : decode cX7_cut 2 = .ok (.invokevirtual 137, 3) := by decide +kernel
theorem dX7_cut_5 : decode cX7_cut 5 = .ok (.astore 4, 2) := by decide +kernel
theorem dX7_cut_7 : decode cX7_cut 7 = .ok (.aload 4, 2) := by decide +kernel
theorem dX7_cut_9 : decode cX7_cut 9 = .ok (.ifnull 12, 3) := by decide +kernel
theorem dX7_cut_12 : decode cX7_cut 12 = .ok (.aload 4, 2) := by decide +kernel
theorem dX7_cut_14 : decode cX7_cut 14 = .ok (.iload_n 2, 1) := by decide +kernel
theorem dX7_cut_15 : decode cX7_cut 15 = .ok (.invokevirtual 155, 3) := by decide +kernel
theorem dX7_cut_18 : decode cX7_cut 18 = .ok (.ifCond .ne 13, 3) := by decide +kernel
theorem dX7_cut_21 : decode cX7_cut 21 = .ok (.new 53, 3) := by decide +kernel
theorem dX7_cut_24 : decode cX7_cut 24 = .ok (.dup, 1) := by decide +kernel
theorem dX7_cut_25 : decode cX7_cut 25 = .ok (.ldc 158, 2) := by decide +kernel
theorem dX7_cut_27 : decode cX7_cut 27 = .ok (.invokespecial 57, 3) := by decide +kernel
theorem dX7_cut_30 : decode cX7_cut 30 = .ok (.athrow, 1) := by decide +kernel
theorem dX7_cut_31 : decode cX7_cut 31 = .ok (.iload_n 3, 1) := by decide +kernel
theorem dX7_cut_32 : decode cX7_cut 32 = .ok (.iconst 1, 1) := by decide +kernel
theorem dX7_cut_33 : decode cX7_cut 33 = .ok (.if_icmp .ge 13, 3) := by decide +kernel
theorem dX7_cut_36 : decode cX7_cut 36 = .ok (.new 76, 3) := by decide +kernel
theorem dX7_cut_39 : decode cX7_cut 39 = .ok (.dup, 1) := by decide +kernel
theorem dX7_cut_40 : decode cX7_cut 40 = .ok (.ldc 160, 2) := by decide +kernel
theorem dX7_cut_42 : decode cX7_cut 42 = .ok (.invokespecial 80, 3) := by decide +kernel
theorem dX7_cut_45 : decode cX7_cut 45 = .ok (.athrow, 1) := by decide +kernel
theorem dX7_cut_46 : decode cX7_cut 46 = .ok (.iload_n 3, 1) := by decide +kernel
theorem dX7_cut_47 : decode cX7_cut 47 = .ok (.aload 4, 2) := by decide +kernel
theorem dX7_cut_49 : decode cX7_cut 49 = .ok (.getfield 162, 3) := by decide +kernel
theorem dX7_cut_52 : decode cX7_cut 52 = .ok (.iload_n 2, 1) := by decide +kernel
theorem dX7_cut_53 : decode cX7_cut 53 = .ok (.isub, 1) := by decide +kernel
theorem dX7_cut_54 : decode cX7_cut 54 = .ok (.if_icmp .gt 12, 3) := by decide +kernel
theorem dX7_cut_57 : decode cX7_cut 57 = .ok (.iload_n 3, 1) := by decide +kernel
theorem dX7_cut_58 : decode cX7_cut 58 = .ok (.aload 4, 2) := by decide +kernel
theorem dX7_cut_60 : decode cX7_cut 60 = .ok (.getfield 162, 3) := by decide +kernel
theorem dX7_cut_63 : decode cX7_cut 63 = .ok (.if_icmp .lt 13, 3) := by decide +kernel
theorem dX7_cut_66 : decode cX7_cut 66 = .ok (.new 31, 3) := by decide +kernel
theorem dX7_cut_69 : decode cX7_cut 69 = .ok (.dup, 1) := by decide +kernel
theorem dX7_cut_70 : decode cX7_cut 70 = .ok (.ldc 163, 2) := by decide +kernel
theorem dX7_cut_72 : decode cX7_cut 72 = .ok (.invokespecial 35, 3) := by decide +kernel
theorem dX7_cut_75 : decode cX7_cut 75 = .ok (.athrow, 1) := by decide +kernel
theorem dX7_cut_76 : decode cX7_cut 76 = .ok (.aload 4, 2) := by decide +kernel
theorem dX7_cut_78 : decode cX7_cut 78 = .ok (.iload_n 2, 1) := by decide +kernel
theorem dX7_cut_79 : decode cX7_cut 79 = .ok (.iload_n 3, 1) := by decide +kernel
theorem dX7_cut_80 : decode cX7_cut 80 = .ok (.invokevirtual 165, 3) := by decide +kernel
theorem dX7_cut_83 : decode cX7_cut 83 = .ok (.aload_n 0, 1) := by decide +kernel
theorem dX7_cut_84 : decode cX7_cut 84 = .ok (.iload_n 1, 1) := by decide +kernel
theorem dX7_cut_85 : decode cX7_cut 85 = .ok (.iload_n 2, 1) := by decide +kernel
theorem dX7_cut_86 : decode cX7_cut 86 = .ok (.iload_n 3, 1) := by decide +kernel
theorem dX7_cut_87 : decode cX7_cut 87 = .ok (.aload 4, 2) := by decide +kernel
theorem dX7_cut_89 : decode cX7_cut 89 = .ok (.getfield 162, 3) := by decide +kernel
theorem dX7_cut_92 : decode cX7_cut 92 = .ok (.invokevirtual 169, 3) := by decide +kernel
theorem dX7_cut_95 : decode cX7_cut 95 = .ok (.aload 4, 2) := by decide +kernel
theorem dX7_cut_97 : decode cX7_cut 97 = .ok (.getfield 162, 3) := by decide +kernel
theorem dX7_cut_100 : decode cX7_cut 100 = .ok (.ireturn, 1) := by decide +kernel
theorem dX7_note_0 : decode cX7_note 0 = .ok (.aload_n 0, 1) := by decide +kernel
theorem dX7_note_1 : decode cX7_note 1 = .ok (.iload_n 1, 1) := by decide +kernel
theorem dX7_note_2 : decode cX7_note 2 = .ok (.invokevirtual 137, 3) := by decide +kernel
theorem dX7_note_5 : decode cX7_note 5 = .ok (.astore_n 3, 1) := by decide +kernel
theorem dX7_note_6 : decode cX7_note 6 = .ok (.aload_n 3, 1) := by decide +kernel
theorem dX7_note_7 : decode cX7_note 7 = .ok (.ifnull 11, 3) := by decide +kernel
theorem dX7_note_10 : decode cX7_note 10 = .ok (.aload_n 3, 1) := by decide +kernel
theorem dX7_note_11 : decode cX7_note 11 = .ok (.iload_n 2, 1) := by decide +kernel
theorem dX7_note_12 : decode cX7_note 12 = .ok (.invokevirtual 155, 3) := by decide +kernel
theorem dX7_note_15 : decode cX7_note 15 = .ok (.ifCond .ne 13, 3) := by decide +kernel
theorem dX7_note_18 : decode cX7_note 18 = .ok (.new 53, 3) := by decide +kernel
theorem dX7_note_21 : decode cX7_note 21 = .ok (.dup, 1) := by decide +kernel
theorem dX7_note_22 : decode cX7_note 22 = .ok (.ldc 158, 2) := by decide +kernel
theorem dX7_note_24 : decode cX7_note 24 = .ok (.invokespecial 57, 3) := by decide +kernel
theorem dX7_note_27 : decode cX7_note 27 = .ok (.athrow, 1) := by decide +kernel
theorem dX7_note_28 : decode cX7_note 28 = .ok (.aload_n 0, 1) := by decide +kernel
theorem dX7_note_29 : decode cX7_note 29 = .ok (.getfield 172, 3) := by decide +kernel
theorem dX7_note_32 : decode cX7_note 32 = .ok (.bipush 40, 2) := by decide +kernel
theorem dX7_note_34 : decode cX7_note 34 = .ok (.if_icmp .lt 13, 3) := by decide +kernel
theorem dX7_note_37 : decode cX7_note 37 = .ok (.new 31, 3) := by decide +kernel
theorem dX7_note_40 : decode cX7_note 40 = .ok (.dup, 1) := by decide +kernel
theorem dX7_note_41 : decode cX7_note 41 = .ok (.ldc 175, 2) := by decide +kernel
theorem dX7_note_43 : decode cX7_note 43 = .ok (.invokespecial 35, 3) := by decide +kernel
theorem dX7_note_46 : decode cX7_note 46 = .ok (.athrow, 1) := by decide +kernel
theorem dX7_note_47 : decode cX7_note 47 = .ok (.aload_n 0, 1) := by decide +kernel
theorem dX7_note_48 : decode cX7_note 48 = .ok (.getfield 23, 3) := by decide +kernel
theorem dX7_note_51 : decode cX7_note 51 = .ok (.aload_n 0, 1) := by decide +kernel
theorem dX7_note_52 : decode cX7_note 52 = .ok (.getfield 172, 3) := by decide +kernel
theorem dX7_note_55 : decode cX7_note 55 = .ok (.new 21, 3) := by decide +kernel
theorem dX7_note_58 : decode cX7_note 58 = .ok (.dup, 1) := by decide +kernel
theorem dX7_note_59 : decode cX7_note 59 = .ok (.iload_n 1, 1) := by decide +kernel
theorem dX7_note_60 : decode cX7_note 60 = .ok (.iload_n 2, 1) := by decide +kernel
theorem dX7_note_61 : decode cX7_note 61 = .ok (.invokespecial 177, 3) := by decide +kernel
theorem dX7_note_64 : decode cX7_note 64 = .ok (.aastore, 1) := by decide +kernel
theorem dX7_note_65 : decode cX7_note 65 = .ok (.aload_n 0, 1) := by decide +kernel
theorem dX7_note_66 : decode cX7_note 66 = .ok (.dup, 1) := by decide +kernel
theorem dX7_note_67 : decode cX7_note 67 = .ok (.getfield 172, 3) := by decide +kernel
theorem dX7_note_70 : decode cX7_note 70 = .ok (.dup_x1, 1) := by decide +kernel
theorem dX7_note_71 : decode cX7_note 71 = .ok (.iconst 1, 1) := by decide +kernel
theorem dX7_note_72 : decode cX7_note 72 = .ok (.iadd, 1) := by decide +kernel
theorem dX7_note_73 : decode cX7_note 73 = .ok (.putfield 172, 3) := by decide +kernel
theorem dX7_note_76 : decode cX7_note 76 = .ok (.ireturn, 1) := by decide +kernel
theorem dX7_settle_0 : decode cX7_settle 0 = .ok (.aload_n 0, 1) := by decide +kernel
theorem dX7_settle_1 : decode cX7_settle 1 = .ok (.iload_n 1, 1) := by decide +kernel
theorem dX7_settle_2 : decode cX7_settle 2 = .ok (.invokevirtual 179, 3) := by decide +kernel
theorem dX7_settle_5 : decode cX7_settle 5 = .ok (.astore_n 2, 1) := by decide +kernel
theorem dX7_settle_6 : decode cX7_settle 6 = .ok (.aload_n 2, 1) := by decide +kernel
theorem dX7_settle_7 : decode cX7_settle 7 = .ok (.ifnonnull 13, 3) := by decide +kernel
theorem dX7_settle_10 : decode cX7_settle 10 = .ok (.new 53, 3) := by decide +kernel
theorem dX7_settle_13 : decode cX7_settle 13 = .ok (.dup, 1) := by decide +kernel
theorem dX7_settle_14 : decode cX7_settle 14 = .ok (.ldc 183, 2) := by decide +kernel
theorem dX7_settle_16 : decode cX7_settle 16 = .ok (.invokespecial 57, 3) := by decide +kernel
theorem dX7_settle_19 : decode cX7_settle 19 = .ok (.athrow, 1) := by decide +kernel
theorem dX7_settle_20 : decode cX7_settle 20 = .ok (.aload_n 2, 1) := by decide +kernel
theorem dX7_settle_21 : decode cX7_settle 21 = .ok (.getfield 185, 3) := by decide +kernel
theorem dX7_settle_24 : decode cX7_settle 24 = .ok (.ifCond .eq 13, 3) := by decide +kernel
theorem dX7_settle_27 : decode cX7_settle 27 = .ok (.new 31, 3) := by decide +kernel
theorem dX7_settle_30 : decode cX7_settle 30 = .ok (.dup, 1) := by decide +kernel
theorem dX7_settle_31 : decode cX7_settle 31 = .ok (.ldc 189, 2) := by decide +kernel
theorem dX7_settle_33 : decode cX7_settle 33 = .ok (.invokespecial 35, 3) := by decide +kernel
theorem dX7_settle_36 : decode cX7_settle 36 = .ok (.athrow, 1) := by decide +kernel
theorem dX7_settle_37 : decode cX7_settle 37 = .ok (.aload_n 2, 1) := by decide +kernel
theorem dX7_settle_38 : decode cX7_settle 38 = .ok (.iconst 1, 1) := by decide +kernel
theorem dX7_settle_39 : decode cX7_settle 39 = .ok (.putfield 185, 3) := by decide +kernel
theorem dX7_settle_42 : decode cX7_settle 42 = .ok (.aload_n 0, 1) := by decide +kernel
theorem dX7_settle_43 : decode cX7_settle 43 = .ok (.aload_n 2, 1) := by decide +kernel
theorem dX7_settle_44 : decode cX7_settle 44 = .ok (.getfield 191, 3) := by decide +kernel
theorem dX7_settle_47 : decode cX7_settle 47 = .ok (.invokevirtual 194, 3) := by decide +kernel
theorem dX7_settle_50 : decode cX7_settle 50 = .ok (.ireturn, 1) := by decide +kernel
theorem dX7_ofNote_0 : decode cX7_ofNote 0 = .ok (.aload_n 0, 1) := by decide +kernel
theorem dX7_ofNote_1 : decode cX7_ofNote 1 = .ok (.iload_n 1, 1) := by decide +kernel
theorem dX7_ofNote_2 : decode cX7_ofNote 2 = .ok (.invokevirtual 179, 3) := by decide +kernel
theorem dX7_ofNote_5 : decode cX7_ofNote 5 = .ok (.astore_n 3, 1) := by decide +kernel
theorem dX7_ofNote_6 : decode cX7_ofNote 6 = .ok (.aload_n 3, 1) := by decide +kernel
theorem dX7_ofNote_7 : decode cX7_ofNote 7 = .ok (.ifnonnull 13, 3) := by decide +kernel
theorem dX7_ofNote_10 : decode cX7_ofNote 10 = .ok (.new 53, 3) := by decide +kernel
theorem dX7_ofNote_13 : decode cX7_ofNote 13 = .ok (.dup, 1) := by decide +kernel
theorem dX7_ofNote_14 : decode cX7_ofNote 14 = .ok (.ldc 183, 2) := by decide +kernel
theorem dX7_ofNote_16 : decode cX7_ofNote 16 = .ok (.invokespecial 57, 3) := by decide +kernel
theorem dX7_ofNote_19 : decode cX7_ofNote 19 = .ok (.athrow, 1) := by decide +kernel
theorem dX7_ofNote_20 : decode cX7_ofNote 20 = .ok (.iload_n 2, 1) := by decide +kernel
theorem dX7_ofNote_21 : decode cX7_ofNote 21 = .ok (.tableswitch 59 0 3 #[31, 36, 41, 54], 31) := by decide +kernel
theorem dX7_ofNote_52 : decode cX7_ofNote 52 = .ok (.aload_n 3, 1) := by decide +kernel
theorem dX7_ofNote_53 : decode cX7_ofNote 53 = .ok (.getfield 191, 3) := by decide +kernel
theorem dX7_ofNote_56 : decode cX7_ofNote 56 = .ok (.ireturn, 1) := by decide +kernel
theorem dX7_ofNote_57 : decode cX7_ofNote 57 = .ok (.aload_n 3, 1) := by decide +kernel
theorem dX7_ofNote_58 : decode cX7_ofNote 58 = .ok (.getfield 197, 3) := by decide +kernel
theorem dX7_ofNote_61 : decode cX7_ofNote 61 = .ok (.ireturn, 1) := by decide +kernel
theorem dX7_ofNote_62 : decode cX7_ofNote 62 = .ok (.aload_n 3, 1) := by decide +kernel
theorem dX7_ofNote_63 : decode cX7_ofNote 63 = .ok (.getfield 185, 3) := by decide +kernel
theorem dX7_ofNote_66 : decode cX7_ofNote 66 = .ok (.ifCond .eq 7, 3) := by decide +kernel
theorem dX7_ofNote_69 : decode cX7_ofNote 69 = .ok (.iconst 1, 1) := by decide +kernel
theorem dX7_ofNote_70 : decode cX7_ofNote 70 = .ok (.goto 4, 3) := by decide +kernel
theorem dX7_ofNote_73 : decode cX7_ofNote 73 = .ok (.iconst 0, 1) := by decide +kernel
theorem dX7_ofNote_74 : decode cX7_ofNote 74 = .ok (.ireturn, 1) := by decide +kernel
theorem dX7_ofNote_75 : decode cX7_ofNote 75 = .ok (.aload_n 3, 1) := by decide +kernel
theorem dX7_ofNote_76 : decode cX7_ofNote 76 = .ok (.getfield 200, 3) := by decide +kernel
theorem dX7_ofNote_79 : decode cX7_ofNote 79 = .ok (.ireturn, 1) := by decide +kernel
theorem dX7_ofNote_80 : decode cX7_ofNote 80 = .ok (.new 53, 3) := by decide +kernel
theorem dX7_ofNote_83 : decode cX7_ofNote 83 = .ok (.dup, 1) := by decide +kernel
theorem dX7_ofNote_84 : decode cX7_ofNote 84 = .ok (.ldc 125, 2) := by decide +kernel
theorem dX7_ofNote_86 : decode cX7_ofNote 86 = .ok (.invokespecial 57, 3) := by decide +kernel
theorem dX7_ofNote_89 : decode cX7_ofNote 89 = .ok (.athrow, 1) := by decide +kernel
theorem dX7_render_0 : decode cX7_render 0 = .ok (.aload_n 0, 1) := by decide +kernel
theorem dX7_render_1 : decode cX7_render 1 = .ok (.iload_n 1, 1) := by decide +kernel
theorem dX7_render_2 : decode cX7_render 2 = .ok (.invokevirtual 137, 3) := by decide +kernel
theorem dX7_render_5 : decode cX7_render 5 = .ok (.astore_n 2, 1) := by decide +kernel
theorem dX7_render_6 : decode cX7_render 6 = .ok (.aload_n 2, 1) := by decide +kernel
theorem dX7_render_7 : decode cX7_render 7 = .ok (.ifnonnull 13, 3) := by decide +kernel
theorem dX7_render_10 : decode cX7_render 10 = .ok (.new 53, 3) := by decide +kernel
theorem dX7_render_13 : decode cX7_render 13 = .ok (.dup, 1) := by decide +kernel
theorem dX7_render_14 : decode cX7_render 14 = .ok (.ldc 203, 2) := by decide +kernel
theorem dX7_render_16 : decode cX7_render 16 = .ok (.invokespecial 57, 3) := by decide +kernel
theorem dX7_render_19 : decode cX7_render 19 = .ok (.athrow, 1) := by decide +kernel
theorem dX7_render_20 : decode cX7_render 20 = .ok (.aload_n 0, 1) := by decide +kernel
theorem dX7_render_21 : decode cX7_render 21 = .ok (.getfield 205, 3) := by decide +kernel
theorem dX7_render_24 : decode cX7_render 24 = .ok (.istore_n 3, 1) := by decide +kernel
theorem dX7_render_25 : decode cX7_render 25 = .ok (.iconst 0, 1) := by decide +kernel
theorem dX7_render_26 : decode cX7_render 26 = .ok (.istore 4, 2) := by decide +kernel
theorem dX7_render_28 : decode cX7_render 28 = .ok (.iload 4, 2) := by decide +kernel
theorem dX7_render_30 : decode cX7_render 30 = .ok (.aload_n 2, 1) := by decide +kernel
theorem dX7_render_31 : decode cX7_render 31 = .ok (.getfield 162, 3) := by decide +kernel
theorem dX7_render_34 : decode cX7_render 34 = .ok (.if_icmp .ge 45, 3) := by decide +kernel
theorem dX7_render_37 : decode cX7_render 37 = .ok (.aload_n 2, 1) := by decide +kernel
theorem dX7_render_38 : decode cX7_render 38 = .ok (.iload 4, 2) := by decide +kernel
theorem dX7_render_40 : decode cX7_render 40 = .ok (.invokevirtual 208, 3) := by decide +kernel
theorem dX7_render_43 : decode cX7_render 43 = .ok (.astore 5, 2) := by decide +kernel
theorem dX7_render_45 : decode cX7_render 45 = .ok (.aload 5, 2) := by decide +kernel
theorem dX7_render_47 : decode cX7_render 47 = .ok (.ifnull 26, 3) := by decide +kernel
theorem dX7_render_50 : decode cX7_render 50 = .ok (.aload_n 0, 1) := by decide +kernel
theorem dX7_render_51 : decode cX7_render 51 = .ok (.aload_n 2, 1) := by decide +kernel
theorem dX7_render_52 : decode cX7_render 52 = .ok (.aload 5, 2) := by decide +kernel
theorem dX7_render_54 : decode cX7_render 54 = .ok (.invokevirtual 212, 3) := by decide +kernel
theorem dX7_render_57 : decode cX7_render 57 = .ok (.ifCond .eq 9, 3) := by decide +kernel
theorem dX7_render_60 : decode cX7_render 60 = .ok (.aload_n 0, 1) := by decide +kernel
theorem dX7_render_61 : decode cX7_render 61 = .ok (.aload 5, 2) := by decide +kernel
theorem dX7_render_63 : decode cX7_render 63 = .ok (.invokevirtual 216, 3) := by decide +kernel
theorem dX7_render_66 : decode cX7_render 66 = .ok (.aload_n 0, 1) := by decide +kernel
theorem dX7_render_67 : decode cX7_render 67 = .ok (.aload_n 2, 1) := by decide +kernel
theorem dX7_render_68 : decode cX7_render 68 = .ok (.aload 5, 2) := by decide +kernel
theorem dX7_render_70 : decode cX7_render 70 = .ok (.invokevirtual 220, 3) := by decide +kernel
theorem dX7_render_73 : decode cX7_render 73 = .ok (.iinc 4 1, 3) := by decide +kernel
theorem dX7_render_76 : decode cX7_render 76 = .ok (.goto (-48), 3) := by decide +kernel
theorem dX7_render_79 : decode cX7_render 79 = .ok (.aload_n 0, 1) := by decide +kernel
theorem dX7_render_80 : decode cX7_render 80 = .ok (.getfield 205, 3) := by decide +kernel
theorem dX7_render_83 : decode cX7_render 83 = .ok (.iload_n 3, 1) := by decide +kernel
theorem dX7_render_84 : decode cX7_render 84 = .ok (.isub, 1) := by decide +kernel
theorem dX7_render_85 : decode cX7_render 85 = .ok (.ireturn, 1) := by decide +kernel
theorem dX7_renderOne_0 : decode cX7_renderOne 0 = .ok (.aload_n 0, 1) := by decide +kernel
theorem dX7_renderOne_1 : decode cX7_renderOne 1 = .ok (.iload_n 1, 1) := by decide +kernel
theorem dX7_renderOne_2 : decode cX7_renderOne 2 = .ok (.invokevirtual 137, 3) := by decide +kernel
theorem dX7_renderOne_5 : decode cX7_renderOne 5 = .ok (.astore_n 3, 1) := by decide +kernel
theorem dX7_renderOne_6 : decode cX7_renderOne 6 = .ok (.aload_n 3, 1) := by decide +kernel
theorem dX7_renderOne_7 : decode cX7_renderOne 7 = .ok (.ifnonnull 7, 3) := by decide +kernel
theorem dX7_renderOne_10 : decode cX7_renderOne 10 = .ok (.aconst_null, 1) := by decide +kernel
theorem dX7_renderOne_11 : decode cX7_renderOne 11 = .ok (.goto 8, 3) := by decide +kernel
theorem dX7_renderOne_14 : decode cX7_renderOne 14 = .ok (.aload_n 3, 1) := by decide +kernel
theorem dX7_renderOne_15 : decode cX7_renderOne 15 = .ok (.iload_n 2, 1) := by decide +kernel
theorem dX7_renderOne_16 : decode cX7_renderOne 16 = .ok (.invokevirtual 208, 3) := by decide +kernel
theorem dX7_renderOne_19 : decode cX7_renderOne 19 = .ok (.astore 4, 2) := by decide +kernel
theorem dX7_renderOne_21 : decode cX7_renderOne 21 = .ok (.aload_n 3, 1) := by decide +kernel
theorem dX7_renderOne_22 : decode cX7_renderOne 22 = .ok (.ifnull 8, 3) := by decide +kernel
theorem dX7_renderOne_25 : decode cX7_renderOne 25 = .ok (.aload 4, 2) := by decide +kernel
theorem dX7_renderOne_27 : decode cX7_renderOne 27 = .ok (.ifnonnull 13, 3) := by decide +kernel
theorem dX7_renderOne_30 : decode cX7_renderOne 30 = .ok (.new 53, 3) := by decide +kernel
theorem dX7_renderOne_33 : decode cX7_renderOne 33 = .ok (.dup, 1) := by decide +kernel
theorem dX7_renderOne_34 : decode cX7_renderOne 34 = .ok (.ldc 158, 2) := by decide +kernel
theorem dX7_renderOne_36 : decode cX7_renderOne 36 = .ok (.invokespecial 57, 3) := by decide +kernel
theorem dX7_renderOne_39 : decode cX7_renderOne 39 = .ok (.athrow, 1) := by decide +kernel
theorem dX7_renderOne_40 : decode cX7_renderOne 40 = .ok (.aload_n 0, 1) := by decide +kernel
theorem dX7_renderOne_41 : decode cX7_renderOne 41 = .ok (.aload_n 3, 1) := by decide +kernel
theorem dX7_renderOne_42 : decode cX7_renderOne 42 = .ok (.aload 4, 2) := by decide +kernel
theorem dX7_renderOne_44 : decode cX7_renderOne 44 = .ok (.invokevirtual 212, 3) := by decide +kernel
theorem dX7_renderOne_47 : decode cX7_renderOne 47 = .ok (.istore 5, 2) := by decide +kernel
theorem dX7_renderOne_49 : decode cX7_renderOne 49 = .ok (.aload_n 0, 1) := by decide +kernel
theorem dX7_renderOne_50 : decode cX7_renderOne 50 = .ok (.aload 4, 2) := by decide +kernel
theorem dX7_renderOne_52 : decode cX7_renderOne 52 = .ok (.invokevirtual 216, 3) := by decide +kernel
theorem dX7_renderOne_55 : decode cX7_renderOne 55 = .ok (.aload_n 0, 1) := by decide +kernel
theorem dX7_renderOne_56 : decode cX7_renderOne 56 = .ok (.aload_n 3, 1) := by decide +kernel
theorem dX7_renderOne_57 : decode cX7_renderOne 57 = .ok (.aload 4, 2) := by decide +kernel
theorem dX7_renderOne_59 : decode cX7_renderOne 59 = .ok (.invokevirtual 220, 3) := by decide +kernel
theorem dX7_renderOne_62 : decode cX7_renderOne 62 = .ok (.iload 5, 2) := by decide +kernel
theorem dX7_renderOne_64 : decode cX7_renderOne 64 = .ok (.ireturn, 1) := by decide +kernel
theorem dX7_needs_0 : decode cX7_needs 0 = .ok (.aload_n 0, 1) := by decide +kernel
theorem dX7_needs_1 : decode cX7_needs 1 = .ok (.iload_n 1, 1) := by decide +kernel
theorem dX7_needs_2 : decode cX7_needs 2 = .ok (.invokevirtual 137, 3) := by decide +kernel
theorem dX7_needs_5 : decode cX7_needs 5 = .ok (.astore_n 2, 1) := by decide +kernel
theorem dX7_needs_6 : decode cX7_needs 6 = .ok (.aload_n 2, 1) := by decide +kernel
theorem dX7_needs_7 : decode cX7_needs 7 = .ok (.ifnonnull 13, 3) := by decide +kernel
theorem dX7_needs_10 : decode cX7_needs 10 = .ok (.new 53, 3) := by decide +kernel
theorem dX7_needs_13 : decode cX7_needs 13 = .ok (.dup, 1) := by decide +kernel
theorem dX7_needs_14 : decode cX7_needs 14 = .ok (.ldc 203, 2) := by decide +kernel
theorem dX7_needs_16 : decode cX7_needs 16 = .ok (.invokespecial 57, 3) := by decide +kernel
theorem dX7_needs_19 : decode cX7_needs 19 = .ok (.athrow, 1) := by decide +kernel
theorem dX7_needs_20 : decode cX7_needs 20 = .ok (.aload_n 0, 1) := by decide +kernel
theorem dX7_needs_21 : decode cX7_needs 21 = .ok (.aload_n 2, 1) := by decide +kernel
theorem dX7_needs_22 : decode cX7_needs 22 = .ok (.invokevirtual 224, 3) := by decide +kernel
theorem dX7_needs_25 : decode cX7_needs 25 = .ok (.ireturn, 1) := by decide +kernel
theorem dX7_mixes_0 : decode cX7_mixes 0 = .ok (.aload_n 0, 1) := by decide +kernel
theorem dX7_mixes_1 : decode cX7_mixes 1 = .ok (.iload_n 1, 1) := by decide +kernel
theorem dX7_mixes_2 : decode cX7_mixes 2 = .ok (.invokevirtual 137, 3) := by decide +kernel
theorem dX7_mixes_5 : decode cX7_mixes 5 = .ok (.astore_n 2, 1) := by decide +kernel
theorem dX7_mixes_6 : decode cX7_mixes 6 = .ok (.aload_n 2, 1) := by decide +kernel
theorem dX7_mixes_7 : decode cX7_mixes 7 = .ok (.ifnonnull 13, 3) := by decide +kernel
theorem dX7_mixes_10 : decode cX7_mixes 10 = .ok (.new 53, 3) := by decide +kernel
theorem dX7_mixes_13 : decode cX7_mixes 13 = .ok (.dup, 1) := by decide +kernel
theorem dX7_mixes_14 : decode cX7_mixes 14 = .ok (.ldc 203, 2) := by decide +kernel
theorem dX7_mixes_16 : decode cX7_mixes 16 = .ok (.invokespecial 57, 3) := by decide +kernel
theorem dX7_mixes_19 : decode cX7_mixes 19 = .ok (.athrow, 1) := by decide +kernel
theorem dX7_mixes_20 : decode cX7_mixes 20 = .ok (.iconst 0, 1) := by decide +kernel
theorem dX7_mixes_21 : decode cX7_mixes 21 = .ok (.istore_n 3, 1) := by decide +kernel
theorem dX7_mixes_22 : decode cX7_mixes 22 = .ok (.iconst 0, 1) := by decide +kernel
theorem dX7_mixes_23 : decode cX7_mixes 23 = .ok (.istore 4, 2) := by decide +kernel
theorem dX7_mixes_25 : decode cX7_mixes 25 = .ok (.iload 4, 2) := by decide +kernel
theorem dX7_mixes_27 : decode cX7_mixes 27 = .ok (.aload_n 0, 1) := by decide +kernel
theorem dX7_mixes_28 : decode cX7_mixes 28 = .ok (.getfield 27, 3) := by decide +kernel
theorem dX7_mixes_31 : decode cX7_mixes 31 = .ok (.if_icmp .ge 30, 3) := by decide +kernel
theorem dX7_mixes_34 : decode cX7_mixes 34 = .ok (.aload_n 2, 1) := by decide +kernel
theorem dX7_mixes_35 : decode cX7_mixes 35 = .ok (.iload 4, 2) := by decide +kernel
theorem dX7_mixes_37 : decode cX7_mixes 37 = .ok (.invokevirtual 228, 3) := by decide +kernel
theorem dX7_mixes_40 : decode cX7_mixes 40 = .ok (.ifCond .eq 15, 3) := by decide +kernel
theorem dX7_mixes_43 : decode cX7_mixes 43 = .ok (.aload_n 2, 1) := by decide +kernel
theorem dX7_mixes_44 : decode cX7_mixes 44 = .ok (.iload 4, 2) := by decide +kernel
theorem dX7_mixes_46 : decode cX7_mixes 46 = .ok (.invokevirtual 231, 3) := by decide +kernel
theorem dX7_mixes_49 : decode cX7_mixes 49 = .ok (.ifCond .eq 6, 3) := by decide +kernel
theorem dX7_mixes_52 : decode cX7_mixes 52 = .ok (.iinc 3 1, 3) := by decide +kernel
theorem dX7_mixes_55 : decode cX7_mixes 55 = .ok (.iinc 4 1, 3) := by decide +kernel
theorem dX7_mixes_58 : decode cX7_mixes 58 = .ok (.goto (-33), 3) := by decide +kernel
theorem dX7_mixes_61 : decode cX7_mixes 61 = .ok (.iload_n 3, 1) := by decide +kernel
theorem dX7_mixes_62 : decode cX7_mixes 62 = .ok (.ireturn, 1) := by decide +kernel
theorem dX7_ofFrame_0 : decode cX7_ofFrame 0 = .ok (.aload_n 0, 1) := by decide +kernel
theorem dX7_ofFrame_1 : decode cX7_ofFrame 1 = .ok (.iload_n 1, 1) := by decide +kernel
theorem dX7_ofFrame_2 : decode cX7_ofFrame 2 = .ok (.invokevirtual 137, 3) := by decide +kernel
theorem dX7_ofFrame_5 : decode cX7_ofFrame 5 = .ok (.astore 4, 2) := by decide +kernel
theorem dX7_ofFrame_7 : decode cX7_ofFrame 7 = .ok (.aload 4, 2) := by decide +kernel
theorem dX7_ofFrame_9 : decode cX7_ofFrame 9 = .ok (.ifnonnull 7, 3) := by decide +kernel
theorem dX7_ofFrame_12 : decode cX7_ofFrame 12 = .ok (.aconst_null, 1) := by decide +kernel
theorem dX7_ofFrame_13 : decode cX7_ofFrame 13 = .ok (.goto 9, 3) := by decide +kernel
theorem dX7_ofFrame_16 : decode cX7_ofFrame 16 = .ok (.aload 4, 2) := by decide +kernel
theorem dX7_ofFrame_18 : decode cX7_ofFrame 18 = .ok (.iload_n 2, 1) := by decide +kernel
theorem dX7_ofFrame_19 : decode cX7_ofFrame 19 = .ok (.invokevirtual 208, 3) := by decide +kernel
theorem dX7_ofFrame_22 : decode cX7_ofFrame 22 = .ok (.astore 5, 2) := by decide +kernel
theorem dX7_ofFrame_24 : decode cX7_ofFrame 24 = .ok (.aload 4, 2) := by decide +kernel
theorem dX7_ofFrame_26 : decode cX7_ofFrame 26 = .ok (.ifnull 8, 3) := by decide +kernel
theorem dX7_ofFrame_29 : decode cX7_ofFrame 29 = .ok (.aload 5, 2) := by decide +kernel
theorem dX7_ofFrame_31 : decode cX7_ofFrame 31 = .ok (.ifnonnull 13, 3) := by decide +kernel
theorem dX7_ofFrame_34 : decode cX7_ofFrame 34 = .ok (.new 53, 3) := by decide +kernel
theorem dX7_ofFrame_37 : decode cX7_ofFrame 37 = .ok (.dup, 1) := by decide +kernel
theorem dX7_ofFrame_38 : decode cX7_ofFrame 38 = .ok (.ldc 158, 2) := by decide +kernel
theorem dX7_ofFrame_40 : decode cX7_ofFrame 40 = .ok (.invokespecial 57, 3) := by decide +kernel
theorem dX7_ofFrame_43 : decode cX7_ofFrame 43 = .ok (.athrow, 1) := by decide +kernel
theorem dX7_ofFrame_44 : decode cX7_ofFrame 44 = .ok (.iload_n 3, 1) := by decide +kernel
theorem dX7_ofFrame_45 : decode cX7_ofFrame 45 = .ok (.tableswitch 98 0 5 #[39, 45, 59, 76, 85, 92], 39) := by decide +kernel
theorem dX7_ofFrame_84 : decode cX7_ofFrame 84 = .ok (.aload 5, 2) := by decide +kernel
theorem dX7_ofFrame_86 : decode cX7_ofFrame 86 = .ok (.getfield 234, 3) := by decide +kernel
theorem dX7_ofFrame_89 : decode cX7_ofFrame 89 = .ok (.ireturn, 1) := by decide +kernel
theorem dX7_ofFrame_90 : decode cX7_ofFrame 90 = .ok (.aload 5, 2) := by decide +kernel
theorem dX7_ofFrame_92 : decode cX7_ofFrame 92 = .ok (.getfield 239, 3) := by decide +kernel
theorem dX7_ofFrame_95 : decode cX7_ofFrame 95 = .ok (.ifCond .le 7, 3) := by decide +kernel
theorem dX7_ofFrame_98 : decode cX7_ofFrame 98 = .ok (.iconst 1, 1) := by decide +kernel
theorem dX7_ofFrame_99 : decode cX7_ofFrame 99 = .ok (.goto 4, 3) := by decide +kernel
theorem dX7_ofFrame_102 : decode cX7_ofFrame 102 = .ok (.iconst 0, 1) := by decide +kernel
theorem dX7_ofFrame_103 : decode cX7_ofFrame 103 = .ok (.ireturn, 1) := by decide +kernel
theorem dX7_ofFrame_104 : decode cX7_ofFrame 104 = .ok (.aload_n 0, 1) := by decide +kernel
theorem dX7_ofFrame_105 : decode cX7_ofFrame 105 = .ok (.aload 4, 2) := by decide +kernel
theorem dX7_ofFrame_107 : decode cX7_ofFrame 107 = .ok (.aload 5, 2) := by decide +kernel
theorem dX7_ofFrame_109 : decode cX7_ofFrame 109 = .ok (.invokevirtual 212, 3) := by decide +kernel
theorem dX7_ofFrame_112 : decode cX7_ofFrame 112 = .ok (.ifCond .eq 7, 3) := by decide +kernel
theorem dX7_ofFrame_115 : decode cX7_ofFrame 115 = .ok (.iconst 1, 1) := by decide +kernel
theorem dX7_ofFrame_116 : decode cX7_ofFrame 116 = .ok (.goto 4, 3) := by decide +kernel
theorem dX7_ofFrame_119 : decode cX7_ofFrame 119 = .ok (.iconst 0, 1) := by decide +kernel
theorem dX7_ofFrame_120 : decode cX7_ofFrame 120 = .ok (.ireturn, 1) := by decide +kernel
theorem dX7_ofFrame_121 : decode cX7_ofFrame 121 = .ok (.aload_n 0, 1) := by decide +kernel
theorem dX7_ofFrame_122 : decode cX7_ofFrame 122 = .ok (.aload 4, 2) := by decide +kernel
theorem dX7_ofFrame_124 : decode cX7_ofFrame 124 = .ok (.aload 5, 2) := by decide +kernel
theorem dX7_ofFrame_126 : decode cX7_ofFrame 126 = .ok (.invokevirtual 242, 3) := by decide +kernel
theorem dX7_ofFrame_129 : decode cX7_ofFrame 129 = .ok (.ireturn, 1) := by decide +kernel
theorem dX7_ofFrame_130 : decode cX7_ofFrame 130 = .ok (.aload_n 0, 1) := by decide +kernel
theorem dX7_ofFrame_131 : decode cX7_ofFrame 131 = .ok (.iload_n 1, 1) := by decide +kernel
theorem dX7_ofFrame_132 : decode cX7_ofFrame 132 = .ok (.iload_n 2, 1) := by decide +kernel
theorem dX7_ofFrame_133 : decode cX7_ofFrame 133 = .ok (.invokevirtual 246, 3) := by decide +kernel
theorem dX7_ofFrame_136 : decode cX7_ofFrame 136 = .ok (.ireturn, 1) := by decide +kernel
theorem dX7_ofFrame_137 : decode cX7_ofFrame 137 = .ok (.aload 5, 2) := by decide +kernel
theorem dX7_ofFrame_139 : decode cX7_ofFrame 139 = .ok (.getfield 239, 3) := by decide +kernel
theorem dX7_ofFrame_142 : decode cX7_ofFrame 142 = .ok (.ireturn, 1) := by decide +kernel
theorem dX7_ofFrame_143 : decode cX7_ofFrame 143 = .ok (.new 53, 3) := by decide +kernel
theorem dX7_ofFrame_146 : decode cX7_ofFrame 146 = .ok (.dup, 1) := by decide +kernel
theorem dX7_ofFrame_147 : decode cX7_ofFrame 147 = .ok (.ldc 125, 2) := by decide +kernel
theorem dX7_ofFrame_149 : decode cX7_ofFrame 149 = .ok (.invokespecial 57, 3) := by decide +kernel
theorem dX7_ofFrame_152 : decode cX7_ofFrame 152 = .ok (.athrow, 1) := by decide +kernel
theorem dX7_kept_0 : decode cX7_kept 0 = .ok (.aload_n 0, 1) := by decide +kernel
theorem dX7_kept_1 : decode cX7_kept 1 = .ok (.iload_n 1, 1) := by decide +kernel
theorem dX7_kept_2 : decode cX7_kept 2 = .ok (.invokevirtual 137, 3) := by decide +kernel
theorem dX7_kept_5 : decode cX7_kept 5 = .ok (.astore 4, 2) := by decide +kernel
theorem dX7_kept_7 : decode cX7_kept 7 = .ok (.aload 4, 2) := by decide +kernel
theorem dX7_kept_9 : decode cX7_kept 9 = .ok (.ifnonnull 7, 3) := by decide +kernel
theorem dX7_kept_12 : decode cX7_kept 12 = .ok (.aconst_null, 1) := by decide +kernel
theorem dX7_kept_13 : decode cX7_kept 13 = .ok (.goto 9, 3) := by decide +kernel
theorem dX7_kept_16 : decode cX7_kept 16 = .ok (.aload 4, 2) := by decide +kernel
theorem dX7_kept_18 : decode cX7_kept 18 = .ok (.iload_n 2, 1) := by decide +kernel
theorem dX7_kept_19 : decode cX7_kept 19 = .ok (.invokevirtual 208, 3) := by decide +kernel
theorem dX7_kept_22 : decode cX7_kept 22 = .ok (.astore 5, 2) := by decide +kernel
theorem dX7_kept_24 : decode cX7_kept 24 = .ok (.aload 5, 2) := by decide +kernel
theorem dX7_kept_26 : decode cX7_kept 26 = .ok (.ifnull 11, 3) := by decide +kernel
theorem dX7_kept_29 : decode cX7_kept 29 = .ok (.aload_n 0, 1) := by decide +kernel
theorem dX7_kept_30 : decode cX7_kept 30 = .ok (.iload_n 3, 1) := by decide +kernel
theorem dX7_kept_31 : decode cX7_kept 31 = .ok (.invokevirtual 39, 3) := by decide +kernel
theorem dX7_kept_34 : decode cX7_kept 34 = .ok (.ifnonnull 13, 3) := by decide +kernel
theorem dX7_kept_37 : decode cX7_kept 37 = .ok (.new 53, 3) := by decide +kernel
theorem dX7_kept_40 : decode cX7_kept 40 = .ok (.dup, 1) := by decide +kernel
theorem dX7_kept_41 : decode cX7_kept 41 = .ok (.ldc 249, 2) := by decide +kernel
theorem dX7_kept_43 : decode cX7_kept 43 = .ok (.invokespecial 57, 3) := by decide +kernel
theorem dX7_kept_46 : decode cX7_kept 46 = .ok (.athrow, 1) := by decide +kernel
theorem dX7_kept_47 : decode cX7_kept 47 = .ok (.aload 5, 2) := by decide +kernel
theorem dX7_kept_49 : decode cX7_kept 49 = .ok (.iload_n 3, 1) := by decide +kernel
theorem dX7_kept_50 : decode cX7_kept 50 = .ok (.invokevirtual 251, 3) := by decide +kernel
theorem dX7_kept_53 : decode cX7_kept 53 = .ok (.ireturn, 1) := by decide +kernel
theorem dX7_count_0 : decode cX7_count 0 = .ok (.iload_n 1, 1) := by decide +kernel
theorem dX7_count_1 : decode cX7_count 1 = .ok (.tableswitch 78 0 6 #[43, 48, 53, 58, 63, 68, 73], 43) := by decide +kernel
theorem dX7_count_44 : decode cX7_count 44 = .ok (.aload_n 0, 1) := by decide +kernel
theorem dX7_count_45 : decode cX7_count 45 = .ok (.getfield 27, 3) := by decide +kernel
theorem dX7_count_48 : decode cX7_count 48 = .ok (.ireturn, 1) := by decide +kernel
theorem dX7_count_49 : decode cX7_count 49 = .ok (.aload_n 0, 1) := by decide +kernel
theorem dX7_count_50 : decode cX7_count 50 = .ok (.invokevirtual 254, 3) := by decide +kernel
theorem dX7_count_53 : decode cX7_count 53 = .ok (.ireturn, 1) := by decide +kernel
theorem dX7_count_54 : decode cX7_count 54 = .ok (.aload_n 0, 1) := by decide +kernel
theorem dX7_count_55 : decode cX7_count 55 = .ok (.getfield 129, 3) := by decide +kernel
theorem dX7_count_58 : decode cX7_count 58 = .ok (.ireturn, 1) := by decide +kernel
theorem dX7_count_59 : decode cX7_count 59 = .ok (.aload_n 0, 1) := by decide +kernel
theorem dX7_count_60 : decode cX7_count 60 = .ok (.invokevirtual 257, 3) := by decide +kernel
theorem dX7_count_63 : decode cX7_count 63 = .ok (.ireturn, 1) := by decide +kernel
theorem dX7_count_64 : decode cX7_count 64 = .ok (.aload_n 0, 1) := by decide +kernel
theorem dX7_count_65 : decode cX7_count 65 = .ok (.invokevirtual 260, 3) := by decide +kernel
theorem dX7_count_68 : decode cX7_count 68 = .ok (.ireturn, 1) := by decide +kernel
theorem dX7_count_69 : decode cX7_count 69 = .ok (.aload_n 0, 1) := by decide +kernel
theorem dX7_count_70 : decode cX7_count 70 = .ok (.getfield 205, 3) := by decide +kernel
theorem dX7_count_73 : decode cX7_count 73 = .ok (.ireturn, 1) := by decide +kernel
theorem dX7_count_74 : decode cX7_count 74 = .ok (.aload_n 0, 1) := by decide +kernel
theorem dX7_count_75 : decode cX7_count 75 = .ok (.invokevirtual 263, 3) := by decide +kernel
theorem dX7_count_78 : decode cX7_count 78 = .ok (.ireturn, 1) := by decide +kernel
theorem dX7_count_79 : decode cX7_count 79 = .ok (.new 76, 3) := by decide +kernel
theorem dX7_count_82 : decode cX7_count 82 = .ok (.dup, 1) := by decide +kernel
theorem dX7_count_83 : decode cX7_count 83 = .ok (.ldc 125, 2) := by decide +kernel
theorem dX7_count_85 : decode cX7_count 85 = .ok (.invokespecial 80, 3) := by decide +kernel
theorem dX7_count_88 : decode cX7_count 88 = .ok (.athrow, 1) := by decide +kernel
theorem dX7_assetAt_0 : decode cX7_assetAt 0 = .ok (.iload_n 1, 1) := by decide +kernel
theorem dX7_assetAt_1 : decode cX7_assetAt 1 = .ok (.ifCond .lt 11, 3) := by decide +kernel
theorem dX7_assetAt_4 : decode cX7_assetAt 4 = .ok (.iload_n 1, 1) := by decide +kernel
theorem dX7_assetAt_5 : decode cX7_assetAt 5 = .ok (.aload_n 0, 1) := by decide +kernel
theorem dX7_assetAt_6 : decode cX7_assetAt 6 = .ok (.getfield 27, 3) := by decide +kernel
theorem dX7_assetAt_9 : decode cX7_assetAt 9 = .ok (.if_icmp .lt 7, 3) := by decide +kernel
theorem dX7_assetAt_12 : decode cX7_assetAt 12 = .ok (.aconst_null, 1) := by decide +kernel
theorem dX7_assetAt_13 : decode cX7_assetAt 13 = .ok (.goto 9, 3) := by decide +kernel
theorem dX7_assetAt_16 : decode cX7_assetAt 16 = .ok (.aload_n 0, 1) := by decide +kernel
theorem dX7_assetAt_17 : decode cX7_assetAt 17 = .ok (.getfield 11, 3) := by decide +kernel
theorem dX7_assetAt_20 : decode cX7_assetAt 20 = .ok (.iload_n 1, 1) := by decide +kernel
theorem dX7_assetAt_21 : decode cX7_assetAt 21 = .ok (.aaload, 1) := by decide +kernel
theorem dX7_assetAt_22 : decode cX7_assetAt 22 = .ok (.areturn, 1) := by decide +kernel
theorem dX7_sceneAt_0 : decode cX7_sceneAt 0 = .ok (.iload_n 1, 1) := by decide +kernel
theorem dX7_sceneAt_1 : decode cX7_sceneAt 1 = .ok (.ifCond .lt 11, 3) := by decide +kernel
theorem dX7_sceneAt_4 : decode cX7_sceneAt 4 = .ok (.iload_n 1, 1) := by decide +kernel
theorem dX7_sceneAt_5 : decode cX7_sceneAt 5 = .ok (.aload_n 0, 1) := by decide +kernel
theorem dX7_sceneAt_6 : decode cX7_sceneAt 6 = .ok (.getfield 129, 3) := by decide +kernel
theorem dX7_sceneAt_9 : decode cX7_sceneAt 9 = .ok (.if_icmp .lt 7, 3) := by decide +kernel
theorem dX7_sceneAt_12 : decode cX7_sceneAt 12 = .ok (.aconst_null, 1) := by decide +kernel
theorem dX7_sceneAt_13 : decode cX7_sceneAt 13 = .ok (.goto 9, 3) := by decide +kernel
theorem dX7_sceneAt_16 : decode cX7_sceneAt 16 = .ok (.aload_n 0, 1) := by decide +kernel
theorem dX7_sceneAt_17 : decode cX7_sceneAt 17 = .ok (.getfield 17, 3) := by decide +kernel
theorem dX7_sceneAt_20 : decode cX7_sceneAt 20 = .ok (.iload_n 1, 1) := by decide +kernel
theorem dX7_sceneAt_21 : decode cX7_sceneAt 21 = .ok (.aaload, 1) := by decide +kernel
theorem dX7_sceneAt_22 : decode cX7_sceneAt 22 = .ok (.areturn, 1) := by decide +kernel
theorem dX7_noteAt_0 : decode cX7_noteAt 0 = .ok (.iload_n 1, 1) := by decide +kernel
theorem dX7_noteAt_1 : decode cX7_noteAt 1 = .ok (.ifCond .lt 11, 3) := by decide +kernel
theorem dX7_noteAt_4 : decode cX7_noteAt 4 = .ok (.iload_n 1, 1) := by decide +kernel
theorem dX7_noteAt_5 : decode cX7_noteAt 5 = .ok (.aload_n 0, 1) := by decide +kernel
theorem dX7_noteAt_6 : decode cX7_noteAt 6 = .ok (.getfield 172, 3) := by decide +kernel
theorem dX7_noteAt_9 : decode cX7_noteAt 9 = .ok (.if_icmp .lt 7, 3) := by decide +kernel
theorem dX7_noteAt_12 : decode cX7_noteAt 12 = .ok (.aconst_null, 1) := by decide +kernel
theorem dX7_noteAt_13 : decode cX7_noteAt 13 = .ok (.goto 9, 3) := by decide +kernel
theorem dX7_noteAt_16 : decode cX7_noteAt 16 = .ok (.aload_n 0, 1) := by decide +kernel
theorem dX7_noteAt_17 : decode cX7_noteAt 17 = .ok (.getfield 23, 3) := by decide +kernel
theorem dX7_noteAt_20 : decode cX7_noteAt 20 = .ok (.iload_n 1, 1) := by decide +kernel
theorem dX7_noteAt_21 : decode cX7_noteAt 21 = .ok (.aaload, 1) := by decide +kernel
theorem dX7_noteAt_22 : decode cX7_noteAt 22 = .ok (.areturn, 1) := by decide +kernel
theorem dX7_draftCurve_0 : decode cX7_draftCurve 0 = .ok (.aload_n 0, 1) := by decide +kernel
theorem dX7_draftCurve_1 : decode cX7_draftCurve 1 = .ok (.iload_n 1, 1) := by decide +kernel
theorem dX7_draftCurve_2 : decode cX7_draftCurve 2 = .ok (.invokevirtual 39, 3) := by decide +kernel
theorem dX7_draftCurve_5 : decode cX7_draftCurve 5 = .ok (.astore_n 3, 1) := by decide +kernel
theorem dX7_draftCurve_6 : decode cX7_draftCurve 6 = .ok (.aload_n 3, 1) := by decide +kernel
theorem dX7_draftCurve_7 : decode cX7_draftCurve 7 = .ok (.ifnonnull 7, 3) := by decide +kernel
theorem dX7_draftCurve_10 : decode cX7_draftCurve 10 = .ok (.aconst_null, 1) := by decide +kernel
theorem dX7_draftCurve_11 : decode cX7_draftCurve 11 = .ok (.goto 11, 3) := by decide +kernel
theorem dX7_draftCurve_14 : decode cX7_draftCurve 14 = .ok (.aload_n 3, 1) := by decide +kernel
theorem dX7_draftCurve_15 : decode cX7_draftCurve 15 = .ok (.getfield 43, 3) := by decide +kernel
theorem dX7_draftCurve_18 : decode cX7_draftCurve 18 = .ok (.iload_n 2, 1) := by decide +kernel
theorem dX7_draftCurve_19 : decode cX7_draftCurve 19 = .ok (.invokevirtual 266, 3) := by decide +kernel
theorem dX7_draftCurve_22 : decode cX7_draftCurve 22 = .ok (.areturn, 1) := by decide +kernel
theorem dX7_rigOf_0 : decode cX7_rigOf 0 = .ok (.aload_n 0, 1) := by decide +kernel
theorem dX7_rigOf_1 : decode cX7_rigOf 1 = .ok (.iload_n 1, 1) := by decide +kernel
theorem dX7_rigOf_2 : decode cX7_rigOf 2 = .ok (.invokevirtual 39, 3) := by decide +kernel
theorem dX7_rigOf_5 : decode cX7_rigOf 5 = .ok (.astore_n 3, 1) := by decide +kernel
theorem dX7_rigOf_6 : decode cX7_rigOf 6 = .ok (.aload_n 3, 1) := by decide +kernel
theorem dX7_rigOf_7 : decode cX7_rigOf 7 = .ok (.ifnonnull 5, 3) := by decide +kernel
theorem dX7_rigOf_10 : decode cX7_rigOf 10 = .ok (.aconst_null, 1) := by decide +kernel
theorem dX7_rigOf_11 : decode cX7_rigOf 11 = .ok (.areturn, 1) := by decide +kernel
theorem dX7_rigOf_12 : decode cX7_rigOf 12 = .ok (.iload_n 2, 1) := by decide +kernel
theorem dX7_rigOf_13 : decode cX7_rigOf 13 = .ok (.iconst (-1), 1) := by decide +kernel
theorem dX7_rigOf_14 : decode cX7_rigOf 14 = .ok (.if_icmp .ne 10, 3) := by decide +kernel
theorem dX7_rigOf_17 : decode cX7_rigOf 17 = .ok (.aload_n 3, 1) := by decide +kernel
theorem dX7_rigOf_18 : decode cX7_rigOf 18 = .ok (.getfield 43, 3) := by decide +kernel
theorem dX7_rigOf_21 : decode cX7_rigOf 21 = .ok (.goto 8, 3) := by decide +kernel
theorem dX7_rigOf_24 : decode cX7_rigOf 24 = .ok (.aload_n 3, 1) := by decide +kernel
theorem dX7_rigOf_25 : decode cX7_rigOf 25 = .ok (.iload_n 2, 1) := by decide +kernel
theorem dX7_rigOf_26 : decode cX7_rigOf 26 = .ok (.invokevirtual 270, 3) := by decide +kernel
theorem dX7_rigOf_29 : decode cX7_rigOf 29 = .ok (.areturn, 1) := by decide +kernel
theorem dX7_isCurveFrame_0 : decode cX7_isCurveFrame 0 = .ok (.iload_n 0, 1) := by decide +kernel
theorem dX7_isCurveFrame_1 : decode cX7_isCurveFrame 1 = .ok (.ifCond .lt 13, 3) := by decide +kernel
theorem dX7_isCurveFrame_4 : decode cX7_isCurveFrame 4 = .ok (.iload_n 0, 1) := by decide +kernel
theorem dX7_isCurveFrame_5 : decode cX7_isCurveFrame 5 = .ok (.bipush 100, 2) := by decide +kernel
theorem dX7_isCurveFrame_7 : decode cX7_isCurveFrame 7 = .ok (.if_icmp .ge 7, 3) := by decide +kernel
theorem dX7_isCurveFrame_10 : decode cX7_isCurveFrame 10 = .ok (.iconst 1, 1) := by decide +kernel
theorem dX7_isCurveFrame_11 : decode cX7_isCurveFrame 11 = .ok (.goto 4, 3) := by decide +kernel
theorem dX7_isCurveFrame_14 : decode cX7_isCurveFrame 14 = .ok (.iconst 0, 1) := by decide +kernel
theorem dX7_isCurveFrame_15 : decode cX7_isCurveFrame 15 = .ok (.ireturn, 1) := by decide +kernel
theorem dX7_canBeShown_0 : decode cX7_canBeShown 0 = .ok (.iload_n 0, 1) := by decide +kernel
theorem dX7_canBeShown_1 : decode cX7_canBeShown 1 = .ok (.ifCond .lt 13, 3) := by decide +kernel
theorem dX7_canBeShown_4 : decode cX7_canBeShown 4 = .ok (.iload_n 0, 1) := by decide +kernel
theorem dX7_canBeShown_5 : decode cX7_canBeShown 5 = .ok (.bipush 40, 2) := by decide +kernel
theorem dX7_canBeShown_7 : decode cX7_canBeShown 7 = .ok (.if_icmp .ge 7, 3) := by decide +kernel
theorem dX7_canBeShown_10 : decode cX7_canBeShown 10 = .ok (.iconst 1, 1) := by decide +kernel
theorem dX7_canBeShown_11 : decode cX7_canBeShown 11 = .ok (.goto 4, 3) := by decide +kernel
theorem dX7_canBeShown_14 : decode cX7_canBeShown 14 = .ok (.iconst 0, 1) := by decide +kernel
theorem dX7_canBeShown_15 : decode cX7_canBeShown 15 = .ok (.ireturn, 1) := by decide +kernel
theorem dX7_seenVersion_0 : decode cX7_seenVersion 0 = .ok (.aload_n 0, 1) := by decide +kernel
theorem dX7_seenVersion_1 : decode cX7_seenVersion 1 = .ok (.iload_n 3, 1) := by decide +kernel
theorem dX7_seenVersion_2 : decode cX7_seenVersion 2 = .ok (.invokevirtual 39, 3) := by decide +kernel
theorem dX7_seenVersion_5 : decode cX7_seenVersion 5 = .ok (.astore 4, 2) := by decide +kernel
theorem dX7_seenVersion_7 : decode cX7_seenVersion 7 = .ok (.aload_n 1, 1) := by decide +kernel
theorem dX7_seenVersion_8 : decode cX7_seenVersion 8 = .ok (.iload_n 3, 1) := by decide +kernel
theorem dX7_seenVersion_9 : decode cX7_seenVersion 9 = .ok (.invokevirtual 274, 3) := by decide +kernel
theorem dX7_seenVersion_12 : decode cX7_seenVersion 12 = .ok (.astore 5, 2) := by decide +kernel
theorem dX7_seenVersion_14 : decode cX7_seenVersion 14 = .ok (.aload 4, 2) := by decide +kernel
theorem dX7_seenVersion_16 : decode cX7_seenVersion 16 = .ok (.ifnull 20, 3) := by decide +kernel
theorem dX7_seenVersion_19 : decode cX7_seenVersion 19 = .ok (.aload 5, 2) := by decide +kernel
theorem dX7_seenVersion_21 : decode cX7_seenVersion 21 = .ok (.ifnull 15, 3) := by decide +kernel
theorem dX7_seenVersion_24 : decode cX7_seenVersion 24 = .ok (.aload 5, 2) := by decide +kernel
theorem dX7_seenVersion_26 : decode cX7_seenVersion 26 = .ok (.aload_n 2, 1) := by decide +kernel
theorem dX7_seenVersion_27 : decode cX7_seenVersion 27 = .ok (.getfield 234, 3) := by decide +kernel
theorem dX7_seenVersion_30 : decode cX7_seenVersion 30 = .ok (.invokevirtual 278, 3) := by decide +kernel
theorem dX7_seenVersion_33 : decode cX7_seenVersion 33 = .ok (.ifCond .ne 5, 3) := by decide +kernel
theorem dX7_seenVersion_36 : decode cX7_seenVersion 36 = .ok (.iconst (-1), 1) := by decide +kernel
theorem dX7_seenVersion_37 : decode cX7_seenVersion 37 = .ok (.ireturn, 1) := by decide +kernel
theorem dX7_seenVersion_38 : decode cX7_seenVersion 38 = .ok (.aload 5, 2) := by decide +kernel
theorem dX7_seenVersion_40 : decode cX7_seenVersion 40 = .ok (.getfield 283, 3) := by decide +kernel
theorem dX7_seenVersion_43 : decode cX7_seenVersion 43 = .ok (.iconst (-1), 1) := by decide +kernel
theorem dX7_seenVersion_44 : decode cX7_seenVersion 44 = .ok (.if_icmp .ne 13, 3) := by decide +kernel
theorem dX7_seenVersion_47 : decode cX7_seenVersion 47 = .ok (.aload 4, 2) := by decide +kernel
theorem dX7_seenVersion_49 : decode cX7_seenVersion 49 = .ok (.getfield 100, 3) := by decide +kernel
theorem dX7_seenVersion_52 : decode cX7_seenVersion 52 = .ok (.iconst 1, 1) := by decide +kernel
theorem dX7_seenVersion_53 : decode cX7_seenVersion 53 = .ok (.isub, 1) := by decide +kernel
theorem dX7_seenVersion_54 : decode cX7_seenVersion 54 = .ok (.goto 8, 3) := by decide +kernel
theorem dX7_seenVersion_57 : decode cX7_seenVersion 57 = .ok (.aload 5, 2) := by decide +kernel
theorem dX7_seenVersion_59 : decode cX7_seenVersion 59 = .ok (.getfield 283, 3) := by decide +kernel
theorem dX7_seenVersion_62 : decode cX7_seenVersion 62 = .ok (.ireturn, 1) := by decide +kernel
theorem dX7_seenRig_0 : decode cX7_seenRig 0 = .ok (.aload_n 0, 1) := by decide +kernel
theorem dX7_seenRig_1 : decode cX7_seenRig 1 = .ok (.iload_n 3, 1) := by decide +kernel
theorem dX7_seenRig_2 : decode cX7_seenRig 2 = .ok (.invokevirtual 39, 3) := by decide +kernel
theorem dX7_seenRig_5 : decode cX7_seenRig 5 = .ok (.astore 4, 2) := by decide +kernel
theorem dX7_seenRig_7 : decode cX7_seenRig 7 = .ok (.aload 4, 2) := by decide +kernel
theorem dX7_seenRig_9 : decode cX7_seenRig 9 = .ok (.ifnonnull 7, 3) := by decide +kernel
theorem dX7_seenRig_12 : decode cX7_seenRig 12 = .ok (.aconst_null, 1) := by decide +kernel
theorem dX7_seenRig_13 : decode cX7_seenRig 13 = .ok (.goto 15, 3) := by decide +kernel
theorem dX7_seenRig_16 : decode cX7_seenRig 16 = .ok (.aload 4, 2) := by decide +kernel
theorem dX7_seenRig_18 : decode cX7_seenRig 18 = .ok (.aload_n 0, 1) := by decide +kernel
theorem dX7_seenRig_19 : decode cX7_seenRig 19 = .ok (.aload_n 1, 1) := by decide +kernel
theorem dX7_seenRig_20 : decode cX7_seenRig 20 = .ok (.aload_n 2, 1) := by decide +kernel
theorem dX7_seenRig_21 : decode cX7_seenRig 21 = .ok (.iload_n 3, 1) := by decide +kernel
theorem dX7_seenRig_22 : decode cX7_seenRig 22 = .ok (.invokevirtual 286, 3) := by decide +kernel
theorem dX7_seenRig_25 : decode cX7_seenRig 25 = .ok (.invokevirtual 270, 3) := by decide +kernel
theorem dX7_seenRig_28 : decode cX7_seenRig 28 = .ok (.areturn, 1) := by decide +kernel
theorem dX7_bonesSeen_0 : decode cX7_bonesSeen 0 = .ok (.iconst 0, 1) := by decide +kernel
theorem dX7_bonesSeen_1 : decode cX7_bonesSeen 1 = .ok (.istore_n 3, 1) := by decide +kernel
theorem dX7_bonesSeen_2 : decode cX7_bonesSeen 2 = .ok (.iconst 0, 1) := by decide +kernel
theorem dX7_bonesSeen_3 : decode cX7_bonesSeen 3 = .ok (.istore 4, 2) := by decide +kernel
theorem dX7_bonesSeen_5 : decode cX7_bonesSeen 5 = .ok (.iload 4, 2) := by decide +kernel
theorem dX7_bonesSeen_7 : decode cX7_bonesSeen 7 = .ok (.aload_n 0, 1) := by decide +kernel
theorem dX7_bonesSeen_8 : decode cX7_bonesSeen 8 = .ok (.getfield 27, 3) := by decide +kernel
theorem dX7_bonesSeen_11 : decode cX7_bonesSeen 11 = .ok (.if_icmp .ge 32, 3) := by decide +kernel
theorem dX7_bonesSeen_14 : decode cX7_bonesSeen 14 = .ok (.aload_n 0, 1) := by decide +kernel
theorem dX7_bonesSeen_15 : decode cX7_bonesSeen 15 = .ok (.aload_n 1, 1) := by decide +kernel
theorem dX7_bonesSeen_16 : decode cX7_bonesSeen 16 = .ok (.aload_n 2, 1) := by decide +kernel
theorem dX7_bonesSeen_17 : decode cX7_bonesSeen 17 = .ok (.iload 4, 2) := by decide +kernel
theorem dX7_bonesSeen_19 : decode cX7_bonesSeen 19 = .ok (.invokevirtual 290, 3) := by decide +kernel
theorem dX7_bonesSeen_22 : decode cX7_bonesSeen 22 = .ok (.astore 5, 2) := by decide +kernel
theorem dX7_bonesSeen_24 : decode cX7_bonesSeen 24 = .ok (.aload 5, 2) := by decide +kernel
theorem dX7_bonesSeen_26 : decode cX7_bonesSeen 26 = .ok (.ifnull 11, 3) := by decide +kernel
theorem dX7_bonesSeen_29 : decode cX7_bonesSeen 29 = .ok (.iload_n 3, 1) := by decide +kernel
theorem dX7_bonesSeen_30 : decode cX7_bonesSeen 30 = .ok (.aload 5, 2) := by decide +kernel
theorem dX7_bonesSeen_32 : decode cX7_bonesSeen 32 = .ok (.getfield 58, 3) := by decide +kernel
theorem dX7_bonesSeen_35 : decode cX7_bonesSeen 35 = .ok (.iadd, 1) := by decide +kernel
theorem dX7_bonesSeen_36 : decode cX7_bonesSeen 36 = .ok (.istore_n 3, 1) := by decide +kernel
theorem dX7_bonesSeen_37 : decode cX7_bonesSeen 37 = .ok (.iinc 4 1, 3) := by decide +kernel
theorem dX7_bonesSeen_40 : decode cX7_bonesSeen 40 = .ok (.goto (-35), 3) := by decide +kernel
theorem dX7_bonesSeen_43 : decode cX7_bonesSeen 43 = .ok (.iload_n 3, 1) := by decide +kernel
theorem dX7_bonesSeen_44 : decode cX7_bonesSeen 44 = .ok (.ireturn, 1) := by decide +kernel
theorem dX7_keepVersions_0 : decode cX7_keepVersions 0 = .ok (.iconst 0, 1) := by decide +kernel
theorem dX7_keepVersions_1 : decode cX7_keepVersions 1 = .ok (.istore_n 3, 1) := by decide +kernel
theorem dX7_keepVersions_2 : decode cX7_keepVersions 2 = .ok (.iload_n 3, 1) := by decide +kernel
theorem dX7_keepVersions_3 : decode cX7_keepVersions 3 = .ok (.aload_n 0, 1) := by decide +kernel
theorem dX7_keepVersions_4 : decode cX7_keepVersions 4 = .ok (.getfield 27, 3) := by decide +kernel
theorem dX7_keepVersions_7 : decode cX7_keepVersions 7 = .ok (.if_icmp .ge 21, 3) := by decide +kernel
theorem dX7_keepVersions_10 : decode cX7_keepVersions 10 = .ok (.aload_n 2, 1) := by decide +kernel
theorem dX7_keepVersions_11 : decode cX7_keepVersions 11 = .ok (.iload_n 3, 1) := by decide +kernel
theorem dX7_keepVersions_12 : decode cX7_keepVersions 12 = .ok (.aload_n 0, 1) := by decide +kernel
theorem dX7_keepVersions_13 : decode cX7_keepVersions 13 = .ok (.aload_n 1, 1) := by decide +kernel
theorem dX7_keepVersions_14 : decode cX7_keepVersions 14 = .ok (.aload_n 2, 1) := by decide +kernel
theorem dX7_keepVersions_15 : decode cX7_keepVersions 15 = .ok (.iload_n 3, 1) := by decide +kernel
theorem dX7_keepVersions_16 : decode cX7_keepVersions 16 = .ok (.invokevirtual 286, 3) := by decide +kernel
theorem dX7_keepVersions_19 : decode cX7_keepVersions 19 = .ok (.invokevirtual 294, 3) := by decide +kernel
theorem dX7_keepVersions_22 : decode cX7_keepVersions 22 = .ok (.iinc 3 1, 3) := by decide +kernel
theorem dX7_keepVersions_25 : decode cX7_keepVersions 25 = .ok (.goto (-23), 3) := by decide +kernel
theorem dX7_keepVersions_28 : decode cX7_keepVersions 28 = .ok (.return_, 1) := by decide +kernel
theorem dX7_countRendering_0 : decode cX7_countRendering 0 = .ok (.aload_n 1, 1) := by decide +kernel
theorem dX7_countRendering_1 : decode cX7_countRendering 1 = .ok (.dup, 1) := by decide +kernel
theorem dX7_countRendering_2 : decode cX7_countRendering 2 = .ok (.getfield 239, 3) := by decide +kernel
theorem dX7_countRendering_5 : decode cX7_countRendering 5 = .ok (.iconst 1, 1) := by decide +kernel
theorem dX7_countRendering_6 : decode cX7_countRendering 6 = .ok (.iadd, 1) := by decide +kernel
theorem dX7_countRendering_7 : decode cX7_countRendering 7 = .ok (.putfield 239, 3) := by decide +kernel
theorem dX7_countRendering_10 : decode cX7_countRendering 10 = .ok (.aload_n 0, 1) := by decide +kernel
theorem dX7_countRendering_11 : decode cX7_countRendering 11 = .ok (.dup, 1) := by decide +kernel
theorem dX7_countRendering_12 : decode cX7_countRendering 12 = .ok (.getfield 205, 3) := by decide +kernel
theorem dX7_countRendering_15 : decode cX7_countRendering 15 = .ok (.iconst 1, 1) := by decide +kernel
theorem dX7_countRendering_16 : decode cX7_countRendering 16 = .ok (.iadd, 1) := by decide +kernel
theorem dX7_countRendering_17 : decode cX7_countRendering 17 = .ok (.putfield 205, 3) := by decide +kernel
theorem dX7_countRendering_20 : decode cX7_countRendering 20 = .ok (.return_, 1) := by decide +kernel
theorem dX7_isStale_0 : decode cX7_isStale 0 = .ok (.aload_n 2, 1) := by decide +kernel
theorem dX7_isStale_1 : decode cX7_isStale 1 = .ok (.getfield 239, 3) := by decide +kernel
theorem dX7_isStale_4 : decode cX7_isStale 4 = .ok (.ifCond .ne 5, 3) := by decide +kernel
theorem dX7_isStale_7 : decode cX7_isStale 7 = .ok (.iconst 1, 1) := by decide +kernel
theorem dX7_isStale_8 : decode cX7_isStale 8 = .ok (.ireturn, 1) := by decide +kernel
theorem dX7_isStale_9 : decode cX7_isStale 9 = .ok (.iconst 0, 1) := by decide +kernel
theorem dX7_isStale_10 : decode cX7_isStale 10 = .ok (.istore_n 3, 1) := by decide +kernel
theorem dX7_isStale_11 : decode cX7_isStale 11 = .ok (.iload_n 3, 1) := by decide +kernel
theorem dX7_isStale_12 : decode cX7_isStale 12 = .ok (.aload_n 0, 1) := by decide +kernel
theorem dX7_isStale_13 : decode cX7_isStale 13 = .ok (.getfield 27, 3) := by decide +kernel
theorem dX7_isStale_16 : decode cX7_isStale 16 = .ok (.if_icmp .ge 51, 3) := by decide +kernel
theorem dX7_isStale_19 : decode cX7_isStale 19 = .ok (.aload_n 0, 1) := by decide +kernel
theorem dX7_isStale_20 : decode cX7_isStale 20 = .ok (.iload_n 3, 1) := by decide +kernel
theorem dX7_isStale_21 : decode cX7_isStale 21 = .ok (.invokevirtual 39, 3) := by decide +kernel
theorem dX7_isStale_24 : decode cX7_isStale 24 = .ok (.astore 4, 2) := by decide +kernel
theorem dX7_isStale_26 : decode cX7_isStale 26 = .ok (.aload_n 0, 1) := by decide +kernel
theorem dX7_isStale_27 : decode cX7_isStale 27 = .ok (.aload_n 1, 1) := by decide +kernel
theorem dX7_isStale_28 : decode cX7_isStale 28 = .ok (.aload_n 2, 1) := by decide +kernel
theorem dX7_isStale_29 : decode cX7_isStale 29 = .ok (.iload_n 3, 1) := by decide +kernel
theorem dX7_isStale_30 : decode cX7_isStale 30 = .ok (.invokevirtual 286, 3) := by decide +kernel
theorem dX7_isStale_33 : decode cX7_isStale 33 = .ok (.istore 5, 2) := by decide +kernel
theorem dX7_isStale_35 : decode cX7_isStale 35 = .ok (.aload 4, 2) := by decide +kernel
theorem dX7_isStale_37 : decode cX7_isStale 37 = .ok (.ifnull 24, 3) := by decide +kernel
theorem dX7_isStale_40 : decode cX7_isStale 40 = .ok (.aload 4, 2) := by decide +kernel
theorem dX7_isStale_42 : decode cX7_isStale 42 = .ok (.aload_n 2, 1) := by decide +kernel
theorem dX7_isStale_43 : decode cX7_isStale 43 = .ok (.iload_n 3, 1) := by decide +kernel
theorem dX7_isStale_44 : decode cX7_isStale 44 = .ok (.invokevirtual 251, 3) := by decide +kernel
theorem dX7_isStale_47 : decode cX7_isStale 47 = .ok (.iload 5, 2) := by decide +kernel
theorem dX7_isStale_49 : decode cX7_isStale 49 = .ok (.aload_n 2, 1) := by decide +kernel
theorem dX7_isStale_50 : decode cX7_isStale 50 = .ok (.getfield 234, 3) := by decide +kernel
theorem dX7_isStale_53 : decode cX7_isStale 53 = .ok (.invokevirtual 297, 3) := by decide +kernel
theorem dX7_isStale_56 : decode cX7_isStale 56 = .ok (.ifCond .ne 5, 3) := by decide +kernel
theorem dX7_isStale_59 : decode cX7_isStale 59 = .ok (.iconst 1, 1) := by decide +kernel
theorem dX7_isStale_60 : decode cX7_isStale 60 = .ok (.ireturn, 1) := by decide +kernel
theorem dX7_isStale_61 : decode cX7_isStale 61 = .ok (.iinc 3 1, 3) := by decide +kernel
theorem dX7_isStale_64 : decode cX7_isStale 64 = .ok (.goto (-53), 3) := by decide +kernel
theorem dX7_isStale_67 : decode cX7_isStale 67 = .ok (.iconst 0, 1) := by decide +kernel
theorem dX7_isStale_68 : decode cX7_isStale 68 = .ok (.ireturn, 1) := by decide +kernel
theorem dX7_staleFrames_0 : decode cX7_staleFrames 0 = .ok (.iconst 0, 1) := by decide +kernel
theorem dX7_staleFrames_1 : decode cX7_staleFrames 1 = .ok (.istore_n 2, 1) := by decide +kernel
theorem dX7_staleFrames_2 : decode cX7_staleFrames 2 = .ok (.iconst 0, 1) := by decide +kernel
theorem dX7_staleFrames_3 : decode cX7_staleFrames 3 = .ok (.istore_n 3, 1) := by decide +kernel
theorem dX7_staleFrames_4 : decode cX7_staleFrames 4 = .ok (.iload_n 3, 1) := by decide +kernel
theorem dX7_staleFrames_5 : decode cX7_staleFrames 5 = .ok (.aload_n 1, 1) := by decide +kernel
theorem dX7_staleFrames_6 : decode cX7_staleFrames 6 = .ok (.getfield 162, 3) := by decide +kernel
theorem dX7_staleFrames_9 : decode cX7_staleFrames 9 = .ok (.if_icmp .ge 34, 3) := by decide +kernel
theorem dX7_staleFrames_12 : decode cX7_staleFrames 12 = .ok (.aload_n 1, 1) := by decide +kernel
theorem dX7_staleFrames_13 : decode cX7_staleFrames 13 = .ok (.iload_n 3, 1) := by decide +kernel
theorem dX7_staleFrames_14 : decode cX7_staleFrames 14 = .ok (.invokevirtual 208, 3) := by decide +kernel
theorem dX7_staleFrames_17 : decode cX7_staleFrames 17 = .ok (.astore 4, 2) := by decide +kernel
theorem dX7_staleFrames_19 : decode cX7_staleFrames 19 = .ok (.aload 4, 2) := by decide +kernel
theorem dX7_staleFrames_21 : decode cX7_staleFrames 21 = .ok (.ifnull 16, 3) := by decide +kernel
theorem dX7_staleFrames_24 : decode cX7_staleFrames 24 = .ok (.aload_n 0, 1) := by decide +kernel
theorem dX7_staleFrames_25 : decode cX7_staleFrames 25 = .ok (.aload_n 1, 1) := by decide +kernel
theorem dX7_staleFrames_26 : decode cX7_staleFrames 26 = .ok (.aload 4, 2) := by decide +kernel
theorem dX7_staleFrames_28 : decode cX7_staleFrames 28 = .ok (.invokevirtual 212, 3) := by decide +kernel
theorem dX7_staleFrames_31 : decode cX7_staleFrames 31 = .ok (.ifCond .eq 6, 3) := by decide +kernel
theorem dX7_staleFrames_34 : decode cX7_staleFrames 34 = .ok (.iinc 2 1, 3) := by decide +kernel
theorem dX7_staleFrames_37 : decode cX7_staleFrames 37 = .ok (.iinc 3 1, 3) := by decide +kernel
theorem dX7_staleFrames_40 : decode cX7_staleFrames 40 = .ok (.goto (-36), 3) := by decide +kernel
theorem dX7_staleFrames_43 : decode cX7_staleFrames 43 = .ok (.iload_n 2, 1) := by decide +kernel
theorem dX7_staleFrames_44 : decode cX7_staleFrames 44 = .ok (.ireturn, 1) := by decide +kernel
theorem dX7_moveNotes_0 : decode cX7_moveNotes 0 = .ok (.iconst 0, 1) := by decide +kernel
theorem dX7_moveNotes_1 : decode cX7_moveNotes 1 = .ok (.istore 5, 2) := by decide +kernel
theorem dX7_moveNotes_3 : decode cX7_moveNotes 3 = .ok (.iload 5, 2) := by decide +kernel
theorem dX7_moveNotes_5 : decode cX7_moveNotes 5 = .ok (.aload_n 0, 1) := by decide +kernel
theorem dX7_moveNotes_6 : decode cX7_moveNotes 6 = .ok (.getfield 172, 3) := by decide +kernel
theorem dX7_moveNotes_9 : decode cX7_moveNotes 9 = .ok (.if_icmp .ge 40, 3) := by decide +kernel
theorem dX7_moveNotes_12 : decode cX7_moveNotes 12 = .ok (.aload_n 0, 1) := by decide +kernel
theorem dX7_moveNotes_13 : decode cX7_moveNotes 13 = .ok (.iload 5, 2) := by decide +kernel
theorem dX7_moveNotes_15 : decode cX7_moveNotes 15 = .ok (.invokevirtual 179, 3) := by decide +kernel
theorem dX7_moveNotes_18 : decode cX7_moveNotes 18 = .ok (.astore 6, 2) := by decide +kernel
theorem dX7_moveNotes_20 : decode cX7_moveNotes 20 = .ok (.aload 6, 2) := by decide +kernel
theorem dX7_moveNotes_22 : decode cX7_moveNotes 22 = .ok (.ifnull 21, 3) := by decide +kernel
theorem dX7_moveNotes_25 : decode cX7_moveNotes 25 = .ok (.aload 6, 2) := by decide +kernel
theorem dX7_moveNotes_27 : decode cX7_moveNotes 27 = .ok (.getfield 191, 3) := by decide +kernel
theorem dX7_moveNotes_30 : decode cX7_moveNotes 30 = .ok (.iload_n 1, 1) := by decide +kernel
theorem dX7_moveNotes_31 : decode cX7_moveNotes 31 = .ok (.if_icmp .ne 12, 3) := by decide +kernel
theorem dX7_moveNotes_34 : decode cX7_moveNotes 34 = .ok (.aload 6, 2) := by decide +kernel
theorem dX7_moveNotes_36 : decode cX7_moveNotes 36 = .ok (.iload_n 2, 1) := by decide +kernel
theorem dX7_moveNotes_37 : decode cX7_moveNotes 37 = .ok (.iload_n 3, 1) := by decide +kernel
theorem dX7_moveNotes_38 : decode cX7_moveNotes 38 = .ok (.iload 4, 2) := by decide +kernel
theorem dX7_moveNotes_40 : decode cX7_moveNotes 40 = .ok (.invokevirtual 301, 3) := by decide +kernel
theorem dX7_moveNotes_43 : decode cX7_moveNotes 43 = .ok (.iinc 5 1, 3) := by decide +kernel
theorem dX7_moveNotes_46 : decode cX7_moveNotes 46 = .ok (.goto (-43), 3) := by decide +kernel
theorem dX7_moveNotes_49 : decode cX7_moveNotes 49 = .ok (.return_, 1) := by decide +kernel
theorem dX7_openNotesOfScene_0 : decode cX7_openNotesOfScene 0 = .ok (.iconst 0, 1) := by decide +kernel
theorem dX7_openNotesOfScene_1 : decode cX7_openNotesOfScene 1 = .ok (.istore_n 2, 1) := by decide +kernel
theorem dX7_openNotesOfScene_2 : decode cX7_openNotesOfScene 2 = .ok (.iconst 0, 1) := by decide +kernel
theorem dX7_openNotesOfScene_3 : decode cX7_openNotesOfScene 3 = .ok (.istore_n 3, 1) := by decide +kernel
theorem dX7_openNotesOfScene_4 : decode cX7_openNotesOfScene 4 = .ok (.iload_n 3, 1) := by decide +kernel
theorem dX7_openNotesOfScene_5 : decode cX7_openNotesOfScene 5 = .ok (.aload_n 0, 1) := by decide +kernel
theorem dX7_openNotesOfScene_6 : decode cX7_openNotesOfScene 6 = .ok (.getfield 172, 3) := by decide +kernel
theorem dX7_openNotesOfScene_9 : decode cX7_openNotesOfScene 9 = .ok (.if_icmp .ge 41, 3) := by decide +kernel
theorem dX7_openNotesOfScene_12 : decode cX7_openNotesOfScene 12 = .ok (.aload_n 0, 1) := by decide +kernel
theorem dX7_openNotesOfScene_13 : decode cX7_openNotesOfScene 13 = .ok (.iload_n 3, 1) := by decide +kernel
theorem dX7_openNotesOfScene_14 : decode cX7_openNotesOfScene 14 = .ok (.invokevirtual 179, 3) := by decide +kernel
theorem dX7_openNotesOfScene_17 : decode cX7_openNotesOfScene 17 = .ok (.astore 4, 2) := by decide +kernel
theorem dX7_openNotesOfScene_19 : decode cX7_openNotesOfScene 19 = .ok (.aload 4, 2) := by decide +kernel
theorem dX7_openNotesOfScene_21 : decode cX7_openNotesOfScene 21 = .ok (.ifnull 23, 3) := by decide +kernel
theorem dX7_openNotesOfScene_24 : decode cX7_openNotesOfScene 24 = .ok (.aload 4, 2) := by decide +kernel
theorem dX7_openNotesOfScene_26 : decode cX7_openNotesOfScene 26 = .ok (.getfield 185, 3) := by decide +kernel
theorem dX7_openNotesOfScene_29 : decode cX7_openNotesOfScene 29 = .ok (.ifCond .ne 15, 3) := by decide +kernel
theorem dX7_openNotesOfScene_32 : decode cX7_openNotesOfScene 32 = .ok (.aload 4, 2) := by decide +kernel
theorem dX7_openNotesOfScene_34 : decode cX7_openNotesOfScene 34 = .ok (.getfield 191, 3) := by decide +kernel
theorem dX7_openNotesOfScene_37 : decode cX7_openNotesOfScene 37 = .ok (.iload_n 1, 1) := by decide +kernel
theorem dX7_openNotesOfScene_38 : decode cX7_openNotesOfScene 38 = .ok (.if_icmp .ne 6, 3) := by decide +kernel
theorem dX7_openNotesOfScene_41 : decode cX7_openNotesOfScene 41 = .ok (.iinc 2 1, 3) := by decide +kernel
theorem dX7_openNotesOfScene_44 : decode cX7_openNotesOfScene 44 = .ok (.iinc 3 1, 3) := by decide +kernel
theorem dX7_openNotesOfScene_47 : decode cX7_openNotesOfScene 47 = .ok (.goto (-43), 3) := by decide +kernel
theorem dX7_openNotesOfScene_50 : decode cX7_openNotesOfScene 50 = .ok (.iload_n 2, 1) := by decide +kernel
theorem dX7_openNotesOfScene_51 : decode cX7_openNotesOfScene 51 = .ok (.ireturn, 1) := by decide +kernel
theorem dX7_openNotesOfFrame_0 : decode cX7_openNotesOfFrame 0 = .ok (.iconst 0, 1) := by decide +kernel
theorem dX7_openNotesOfFrame_1 : decode cX7_openNotesOfFrame 1 = .ok (.istore_n 3, 1) := by decide +kernel
theorem dX7_openNotesOfFrame_2 : decode cX7_openNotesOfFrame 2 = .ok (.iconst 0, 1) := by decide +kernel
theorem dX7_openNotesOfFrame_3 : decode cX7_openNotesOfFrame 3 = .ok (.istore 4, 2) := by decide +kernel
theorem dX7_openNotesOfFrame_5 : decode cX7_openNotesOfFrame 5 = .ok (.iload 4, 2) := by decide +kernel
theorem dX7_openNotesOfFrame_7 : decode cX7_openNotesOfFrame 7 = .ok (.aload_n 0, 1) := by decide +kernel
theorem dX7_openNotesOfFrame_8 : decode cX7_openNotesOfFrame 8 = .ok (.getfield 172, 3) := by decide +kernel
theorem dX7_openNotesOfFrame_11 : decode cX7_openNotesOfFrame 11 = .ok (.if_icmp .ge 51, 3) := by decide +kernel
theorem dX7_openNotesOfFrame_14 : decode cX7_openNotesOfFrame 14 = .ok (.aload_n 0, 1) := by decide +kernel
theorem dX7_openNotesOfFrame_15 : decode cX7_openNotesOfFrame 15 = .ok (.iload 4, 2) := by decide +kernel
theorem dX7_openNotesOfFrame_17 : decode cX7_openNotesOfFrame 17 = .ok (.invokevirtual 179, 3) := by decide +kernel
theorem dX7_openNotesOfFrame_20 : decode cX7_openNotesOfFrame 20 = .ok (.astore 5, 2) := by decide +kernel
theorem dX7_openNotesOfFrame_22 : decode cX7_openNotesOfFrame 22 = .ok (.aload 5, 2) := by decide +kernel
theorem dX7_openNotesOfFrame_24 : decode cX7_openNotesOfFrame 24 = .ok (.ifnull 32, 3) := by decide +kernel
theorem dX7_openNotesOfFrame_27 : decode cX7_openNotesOfFrame 27 = .ok (.aload 5, 2) := by decide +kernel
theorem dX7_openNotesOfFrame_29 : decode cX7_openNotesOfFrame 29 = .ok (.getfield 185, 3) := by decide +kernel
theorem dX7_openNotesOfFrame_32 : decode cX7_openNotesOfFrame 32 = .ok (.ifCond .ne 24, 3) := by decide +kernel
theorem dX7_openNotesOfFrame_35 : decode cX7_openNotesOfFrame 35 = .ok (.aload 5, 2) := by decide +kernel
theorem dX7_openNotesOfFrame_37 : decode cX7_openNotesOfFrame 37 = .ok (.getfield 191, 3) := by decide +kernel
theorem dX7_openNotesOfFrame_40 : decode cX7_openNotesOfFrame 40 = .ok (.iload_n 1, 1) := by decide +kernel
theorem dX7_openNotesOfFrame_41 : decode cX7_openNotesOfFrame 41 = .ok (.if_icmp .ne 15, 3) := by decide +kernel
theorem dX7_openNotesOfFrame_44 : decode cX7_openNotesOfFrame 44 = .ok (.aload 5, 2) := by decide +kernel
theorem dX7_openNotesOfFrame_46 : decode cX7_openNotesOfFrame 46 = .ok (.getfield 197, 3) := by decide +kernel
theorem dX7_openNotesOfFrame_49 : decode cX7_openNotesOfFrame 49 = .ok (.iload_n 2, 1) := by decide +kernel
theorem dX7_openNotesOfFrame_50 : decode cX7_openNotesOfFrame 50 = .ok (.if_icmp .ne 6, 3) := by decide +kernel
theorem dX7_openNotesOfFrame_53 : decode cX7_openNotesOfFrame 53 = .ok (.iinc 3 1, 3) := by decide +kernel
theorem dX7_openNotesOfFrame_56 : decode cX7_openNotesOfFrame 56 = .ok (.iinc 4 1, 3) := by decide +kernel
theorem dX7_openNotesOfFrame_59 : decode cX7_openNotesOfFrame 59 = .ok (.goto (-54), 3) := by decide +kernel
theorem dX7_openNotesOfFrame_62 : decode cX7_openNotesOfFrame 62 = .ok (.iload_n 3, 1) := by decide +kernel
theorem dX7_openNotesOfFrame_63 : decode cX7_openNotesOfFrame 63 = .ok (.ireturn, 1) := by decide +kernel
theorem dX7_scenesThatCast_0 : decode cX7_scenesThatCast 0 = .ok (.iconst 0, 1) := by decide +kernel
theorem dX7_scenesThatCast_1 : decode cX7_scenesThatCast 1 = .ok (.istore_n 2, 1) := by decide +kernel
theorem dX7_scenesThatCast_2 : decode cX7_scenesThatCast 2 = .ok (.iconst 0, 1) := by decide +kernel
theorem dX7_scenesThatCast_3 : decode cX7_scenesThatCast 3 = .ok (.istore_n 3, 1) := by decide +kernel
theorem dX7_scenesThatCast_4 : decode cX7_scenesThatCast 4 = .ok (.iload_n 3, 1) := by decide +kernel
theorem dX7_scenesThatCast_5 : decode cX7_scenesThatCast 5 = .ok (.aload_n 0, 1) := by decide +kernel
theorem dX7_scenesThatCast_6 : decode cX7_scenesThatCast 6 = .ok (.getfield 129, 3) := by decide +kernel
theorem dX7_scenesThatCast_9 : decode cX7_scenesThatCast 9 = .ok (.if_icmp .ge 33, 3) := by decide +kernel
theorem dX7_scenesThatCast_12 : decode cX7_scenesThatCast 12 = .ok (.aload_n 0, 1) := by decide +kernel
theorem dX7_scenesThatCast_13 : decode cX7_scenesThatCast 13 = .ok (.iload_n 3, 1) := by decide +kernel
theorem dX7_scenesThatCast_14 : decode cX7_scenesThatCast 14 = .ok (.invokevirtual 137, 3) := by decide +kernel
theorem dX7_scenesThatCast_17 : decode cX7_scenesThatCast 17 = .ok (.astore 4, 2) := by decide +kernel
theorem dX7_scenesThatCast_19 : decode cX7_scenesThatCast 19 = .ok (.aload 4, 2) := by decide +kernel
theorem dX7_scenesThatCast_21 : decode cX7_scenesThatCast 21 = .ok (.ifnull 15, 3) := by decide +kernel
theorem dX7_scenesThatCast_24 : decode cX7_scenesThatCast 24 = .ok (.aload 4, 2) := by decide +kernel
theorem dX7_scenesThatCast_26 : decode cX7_scenesThatCast 26 = .ok (.iload_n 1, 1) := by decide +kernel
theorem dX7_scenesThatCast_27 : decode cX7_scenesThatCast 27 = .ok (.invokevirtual 274, 3) := by decide +kernel
theorem dX7_scenesThatCast_30 : decode cX7_scenesThatCast 30 = .ok (.ifnull 6, 3) := by decide +kernel
theorem dX7_scenesThatCast_33 : decode cX7_scenesThatCast 33 = .ok (.iinc 2 1, 3) := by decide +kernel
theorem dX7_scenesThatCast_36 : decode cX7_scenesThatCast 36 = .ok (.iinc 3 1, 3) := by decide +kernel
theorem dX7_scenesThatCast_39 : decode cX7_scenesThatCast 39 = .ok (.goto (-35), 3) := by decide +kernel
theorem dX7_scenesThatCast_42 : decode cX7_scenesThatCast 42 = .ok (.iload_n 2, 1) := by decide +kernel
theorem dX7_scenesThatCast_43 : decode cX7_scenesThatCast 43 = .ok (.ireturn, 1) := by decide +kernel
theorem dX7_allVersions_0 : decode cX7_allVersions 0 = .ok (.iconst 0, 1) := by decide +kernel
theorem dX7_allVersions_1 : decode cX7_allVersions 1 = .ok (.istore_n 1, 1) := by decide +kernel
theorem dX7_allVersions_2 : decode cX7_allVersions 2 = .ok (.iconst 0, 1) := by decide +kernel
theorem dX7_allVersions_3 : decode cX7_allVersions 3 = .ok (.istore_n 2, 1) := by decide +kernel
theorem dX7_allVersions_4 : decode cX7_allVersions 4 = .ok (.iload_n 2, 1) := by decide +kernel
theorem dX7_allVersions_5 : decode cX7_allVersions 5 = .ok (.aload_n 0, 1) := by decide +kernel
theorem dX7_allVersions_6 : decode cX7_allVersions 6 = .ok (.getfield 27, 3) := by decide +kernel
theorem dX7_allVersions_9 : decode cX7_allVersions 9 = .ok (.if_icmp .ge 26, 3) := by decide +kernel
theorem dX7_allVersions_12 : decode cX7_allVersions 12 = .ok (.aload_n 0, 1) := by decide +kernel
theorem dX7_allVersions_13 : decode cX7_allVersions 13 = .ok (.iload_n 2, 1) := by decide +kernel
theorem dX7_allVersions_14 : decode cX7_allVersions 14 = .ok (.invokevirtual 39, 3) := by decide +kernel
theorem dX7_allVersions_17 : decode cX7_allVersions 17 = .ok (.astore_n 3, 1) := by decide +kernel
theorem dX7_allVersions_18 : decode cX7_allVersions 18 = .ok (.aload_n 3, 1) := by decide +kernel
theorem dX7_allVersions_19 : decode cX7_allVersions 19 = .ok (.ifnull 10, 3) := by decide +kernel
theorem dX7_allVersions_22 : decode cX7_allVersions 22 = .ok (.iload_n 1, 1) := by decide +kernel
theorem dX7_allVersions_23 : decode cX7_allVersions 23 = .ok (.aload_n 3, 1) := by decide +kernel
theorem dX7_allVersions_24 : decode cX7_allVersions 24 = .ok (.getfield 100, 3) := by decide +kernel
theorem dX7_allVersions_27 : decode cX7_allVersions 27 = .ok (.iadd, 1) := by decide +kernel
theorem dX7_allVersions_28 : decode cX7_allVersions 28 = .ok (.istore_n 1, 1) := by decide +kernel
theorem dX7_allVersions_29 : decode cX7_allVersions 29 = .ok (.iinc 2 1, 3) := by decide +kernel
theorem dX7_allVersions_32 : decode cX7_allVersions 32 = .ok (.goto (-28), 3) := by decide +kernel
theorem dX7_allVersions_35 : decode cX7_allVersions 35 = .ok (.iload_n 1, 1) := by decide +kernel
theorem dX7_allVersions_36 : decode cX7_allVersions 36 = .ok (.ireturn, 1) := by decide +kernel
theorem dX7_allFrames_0 : decode cX7_allFrames 0 = .ok (.iconst 0, 1) := by decide +kernel
theorem dX7_allFrames_1 : decode cX7_allFrames 1 = .ok (.istore_n 1, 1) := by decide +kernel
theorem dX7_allFrames_2 : decode cX7_allFrames 2 = .ok (.iconst 0, 1) := by decide +kernel
theorem dX7_allFrames_3 : decode cX7_allFrames 3 = .ok (.istore_n 2, 1) := by decide +kernel
theorem dX7_allFrames_4 : decode cX7_allFrames 4 = .ok (.iload_n 2, 1) := by decide +kernel
theorem dX7_allFrames_5 : decode cX7_allFrames 5 = .ok (.aload_n 0, 1) := by decide +kernel
theorem dX7_allFrames_6 : decode cX7_allFrames 6 = .ok (.getfield 129, 3) := by decide +kernel
theorem dX7_allFrames_9 : decode cX7_allFrames 9 = .ok (.if_icmp .ge 26, 3) := by decide +kernel
theorem dX7_allFrames_12 : decode cX7_allFrames 12 = .ok (.aload_n 0, 1) := by decide +kernel
theorem dX7_allFrames_13 : decode cX7_allFrames 13 = .ok (.iload_n 2, 1) := by decide +kernel
theorem dX7_allFrames_14 : decode cX7_allFrames 14 = .ok (.invokevirtual 137, 3) := by decide +kernel
theorem dX7_allFrames_17 : decode cX7_allFrames 17 = .ok (.astore_n 3, 1) := by decide +kernel
theorem dX7_allFrames_18 : decode cX7_allFrames 18 = .ok (.aload_n 3, 1) := by decide +kernel
theorem dX7_allFrames_19 : decode cX7_allFrames 19 = .ok (.ifnull 10, 3) := by decide +kernel
theorem dX7_allFrames_22 : decode cX7_allFrames 22 = .ok (.iload_n 1, 1) := by decide +kernel
theorem dX7_allFrames_23 : decode cX7_allFrames 23 = .ok (.aload_n 3, 1) := by decide +kernel
theorem dX7_allFrames_24 : decode cX7_allFrames 24 = .ok (.getfield 162, 3) := by decide +kernel
theorem dX7_allFrames_27 : decode cX7_allFrames 27 = .ok (.iadd, 1) := by decide +kernel
theorem dX7_allFrames_28 : decode cX7_allFrames 28 = .ok (.istore_n 1, 1) := by decide +kernel
theorem dX7_allFrames_29 : decode cX7_allFrames 29 = .ok (.iinc 2 1, 3) := by decide +kernel
theorem dX7_allFrames_32 : decode cX7_allFrames 32 = .ok (.goto (-28), 3) := by decide +kernel
theorem dX7_allFrames_35 : decode cX7_allFrames 35 = .ok (.iload_n 1, 1) := by decide +kernel
theorem dX7_allFrames_36 : decode cX7_allFrames 36 = .ok (.ireturn, 1) := by decide +kernel
theorem dX7_allStaleFrames_0 : decode cX7_allStaleFrames 0 = .ok (.iconst 0, 1) := by decide +kernel
theorem dX7_allStaleFrames_1 : decode cX7_allStaleFrames 1 = .ok (.istore_n 1, 1) := by decide +kernel
theorem dX7_allStaleFrames_2 : decode cX7_allStaleFrames 2 = .ok (.iconst 0, 1) := by decide +kernel
theorem dX7_allStaleFrames_3 : decode cX7_allStaleFrames 3 = .ok (.istore_n 2, 1) := by decide +kernel
theorem dX7_allStaleFrames_4 : decode cX7_allStaleFrames 4 = .ok (.iload_n 2, 1) := by decide +kernel
theorem dX7_allStaleFrames_5 : decode cX7_allStaleFrames 5 = .ok (.aload_n 0, 1) := by decide +kernel
theorem dX7_allStaleFrames_6 : decode cX7_allStaleFrames 6 = .ok (.getfield 129, 3) := by decide +kernel
theorem dX7_allStaleFrames_9 : decode cX7_allStaleFrames 9 = .ok (.if_icmp .ge 27, 3) := by decide +kernel
theorem dX7_allStaleFrames_12 : decode cX7_allStaleFrames 12 = .ok (.aload_n 0, 1) := by decide +kernel
theorem dX7_allStaleFrames_13 : decode cX7_allStaleFrames 13 = .ok (.iload_n 2, 1) := by decide +kernel
theorem dX7_allStaleFrames_14 : decode cX7_allStaleFrames 14 = .ok (.invokevirtual 137, 3) := by decide +kernel
theorem dX7_allStaleFrames_17 : decode cX7_allStaleFrames 17 = .ok (.astore_n 3, 1) := by decide +kernel
theorem dX7_allStaleFrames_18 : decode cX7_allStaleFrames 18 = .ok (.aload_n 3, 1) := by decide +kernel
theorem dX7_allStaleFrames_19 : decode cX7_allStaleFrames 19 = .ok (.ifnull 11, 3) := by decide +kernel
theorem dX7_allStaleFrames_22 : decode cX7_allStaleFrames 22 = .ok (.iload_n 1, 1) := by decide +kernel
theorem dX7_allStaleFrames_23 : decode cX7_allStaleFrames 23 = .ok (.aload_n 0, 1) := by decide +kernel
theorem dX7_allStaleFrames_24 : decode cX7_allStaleFrames 24 = .ok (.aload_n 3, 1) := by decide +kernel
theorem dX7_allStaleFrames_25 : decode cX7_allStaleFrames 25 = .ok (.invokevirtual 224, 3) := by decide +kernel
theorem dX7_allStaleFrames_28 : decode cX7_allStaleFrames 28 = .ok (.iadd, 1) := by decide +kernel
theorem dX7_allStaleFrames_29 : decode cX7_allStaleFrames 29 = .ok (.istore_n 1, 1) := by decide +kernel
theorem dX7_allStaleFrames_30 : decode cX7_allStaleFrames 30 = .ok (.iinc 2 1, 3) := by decide +kernel
theorem dX7_allStaleFrames_33 : decode cX7_allStaleFrames 33 = .ok (.goto (-29), 3) := by decide +kernel
theorem dX7_allStaleFrames_36 : decode cX7_allStaleFrames 36 = .ok (.iload_n 1, 1) := by decide +kernel
theorem dX7_allStaleFrames_37 : decode cX7_allStaleFrames 37 = .ok (.ireturn, 1) := by decide +kernel
theorem dX7_allOpenNotes_0 : decode cX7_allOpenNotes 0 = .ok (.iconst 0, 1) := by decide +kernel
theorem dX7_allOpenNotes_1 : decode cX7_allOpenNotes 1 = .ok (.istore_n 1, 1) := by decide +kernel
theorem dX7_allOpenNotes_2 : decode cX7_allOpenNotes 2 = .ok (.iconst 0, 1) := by decide +kernel
theorem dX7_allOpenNotes_3 : decode cX7_allOpenNotes 3 = .ok (.istore_n 2, 1) := by decide +kernel
theorem dX7_allOpenNotes_4 : decode cX7_allOpenNotes 4 = .ok (.iload_n 2, 1) := by decide +kernel
theorem dX7_allOpenNotes_5 : decode cX7_allOpenNotes 5 = .ok (.aload_n 0, 1) := by decide +kernel
theorem dX7_allOpenNotes_6 : decode cX7_allOpenNotes 6 = .ok (.getfield 172, 3) := by decide +kernel
theorem dX7_allOpenNotes_9 : decode cX7_allOpenNotes 9 = .ok (.if_icmp .ge 29, 3) := by decide +kernel
theorem dX7_allOpenNotes_12 : decode cX7_allOpenNotes 12 = .ok (.aload_n 0, 1) := by decide +kernel
theorem dX7_allOpenNotes_13 : decode cX7_allOpenNotes 13 = .ok (.iload_n 2, 1) := by decide +kernel
theorem dX7_allOpenNotes_14 : decode cX7_allOpenNotes 14 = .ok (.invokevirtual 179, 3) := by decide +kernel
theorem dX7_allOpenNotes_17 : decode cX7_allOpenNotes 17 = .ok (.astore_n 3, 1) := by decide +kernel
theorem dX7_allOpenNotes_18 : decode cX7_allOpenNotes 18 = .ok (.aload_n 3, 1) := by decide +kernel
theorem dX7_allOpenNotes_19 : decode cX7_allOpenNotes 19 = .ok (.ifnull 13, 3) := by decide +kernel
theorem dX7_allOpenNotes_22 : decode cX7_allOpenNotes 22 = .ok (.aload_n 3, 1) := by decide +kernel
theorem dX7_allOpenNotes_23 : decode cX7_allOpenNotes 23 = .ok (.getfield 185, 3) := by decide +kernel
theorem dX7_allOpenNotes_26 : decode cX7_allOpenNotes 26 = .ok (.ifCond .ne 6, 3) := by decide +kernel
theorem dX7_allOpenNotes_29 : decode cX7_allOpenNotes 29 = .ok (.iinc 1 1, 3) := by decide +kernel
theorem dX7_allOpenNotes_32 : decode cX7_allOpenNotes 32 = .ok (.iinc 2 1, 3) := by decide +kernel
theorem dX7_allOpenNotes_35 : decode cX7_allOpenNotes 35 = .ok (.goto (-31), 3) := by decide +kernel
theorem dX7_allOpenNotes_38 : decode cX7_allOpenNotes 38 = .ok (.iload_n 1, 1) := by decide +kernel
theorem dX7_allOpenNotes_39 : decode cX7_allOpenNotes 39 = .ok (.ireturn, 1) := by decide +kernel
theorem dX8_init_0 : decode cX8_init 0 = .ok (.aload_n 0, 1) := by decide +kernel
theorem dX8_init_1 : decode cX8_init 1 = .ok (.invokespecial 1, 3) := by decide +kernel
theorem dX8_init_4 : decode cX8_init 4 = .ok (.aload_n 0, 1) := by decide +kernel
theorem dX8_init_5 : decode cX8_init 5 = .ok (.bipush 8, 2) := by decide +kernel
theorem dX8_init_7 : decode cX8_init 7 = .ok (.newarray .int, 2) := by decide +kernel
theorem dX8_init_9 : decode cX8_init 9 = .ok (.putfield 7, 3) := by decide +kernel
theorem dX8_init_12 : decode cX8_init 12 = .ok (.aload_n 0, 1) := by decide +kernel
theorem dX8_init_13 : decode cX8_init 13 = .ok (.bipush 104, 2) := by decide +kernel
theorem dX8_init_15 : decode cX8_init 15 = .ok (.newarray .int, 2) := by decide +kernel
theorem dX8_init_17 : decode cX8_init 17 = .ok (.putfield 13, 3) := by decide +kernel
theorem dX8_init_20 : decode cX8_init 20 = .ok (.aload_n 0, 1) := by decide +kernel
theorem dX8_init_21 : decode cX8_init 21 = .ok (.sipush 1040, 3) := by decide +kernel
theorem dX8_init_24 : decode cX8_init 24 = .ok (.newarray .int, 2) := by decide +kernel
theorem dX8_init_26 : decode cX8_init 26 = .ok (.putfield 16, 3) := by decide +kernel
theorem dX8_init_29 : decode cX8_init 29 = .ok (.aload_n 0, 1) := by decide +kernel
theorem dX8_init_30 : decode cX8_init 30 = .ok (.sipush 1040, 3) := by decide +kernel
theorem dX8_init_33 : decode cX8_init 33 = .ok (.newarray .int, 2) := by decide +kernel
theorem dX8_init_35 : decode cX8_init 35 = .ok (.putfield 19, 3) := by decide +kernel
theorem dX8_init_38 : decode cX8_init 38 = .ok (.aload_n 0, 1) := by decide +kernel
theorem dX8_init_39 : decode cX8_init 39 = .ok (.sipush 12480, 3) := by decide +kernel
theorem dX8_init_42 : decode cX8_init 42 = .ok (.newarray .int, 2) := by decide +kernel
theorem dX8_init_44 : decode cX8_init 44 = .ok (.putfield 22, 3) := by decide +kernel
theorem dX8_init_47 : decode cX8_init 47 = .ok (.aload_n 0, 1) := by decide +kernel
theorem dX8_init_48 : decode cX8_init 48 = .ok (.sipush 12480, 3) := by decide +kernel
theorem dX8_init_51 : decode cX8_init 51 = .ok (.newarray .int, 2) := by decide +kernel
theorem dX8_init_53 : decode cX8_init 53 = .ok (.putfield 25, 3) := by decide +kernel
theorem dX8_init_56 : decode cX8_init 56 = .ok (.aload_n 0, 1) := by decide +kernel
theorem dX8_init_57 : decode cX8_init 57 = .ok (.sipush 12480, 3) := by decide +kernel
theorem dX8_init_60 : decode cX8_init 60 = .ok (.newarray .int, 2) := by decide +kernel
theorem dX8_init_62 : decode cX8_init 62 = .ok (.putfield 28, 3) := by decide +kernel
theorem dX8_init_65 : decode cX8_init 65 = .ok (.aload_n 0, 1) := by decide +kernel
theorem dX8_init_66 : decode cX8_init 66 = .ok (.bipush 8, 2) := by decide +kernel
theorem dX8_init_68 : decode cX8_init 68 = .ok (.newarray .int, 2) := by decide +kernel
theorem dX8_init_70 : decode cX8_init 70 = .ok (.putfield 31, 3) := by decide +kernel
theorem dX8_init_73 : decode cX8_init 73 = .ok (.aload_n 0, 1) := by decide +kernel
theorem dX8_init_74 : decode cX8_init 74 = .ok (.bipush 64, 2) := by decide +kernel
theorem dX8_init_76 : decode cX8_init 76 = .ok (.newarray .boolean, 2) := by decide +kernel
theorem dX8_init_78 : decode cX8_init 78 = .ok (.putfield 34, 3) := by decide +kernel
theorem dX8_init_81 : decode cX8_init 81 = .ok (.aload_n 0, 1) := by decide +kernel
theorem dX8_init_82 : decode cX8_init 82 = .ok (.bipush 64, 2) := by decide +kernel
theorem dX8_init_84 : decode cX8_init 84 = .ok (.newarray .int, 2) := by decide +kernel
theorem dX8_init_86 : decode cX8_init 86 = .ok (.putfield 38, 3) := by decide +kernel
theorem dX8_init_89 : decode cX8_init 89 = .ok (.aload_n 0, 1) := by decide +kernel
theorem dX8_init_90 : decode cX8_init 90 = .ok (.bipush 64, 2) := by decide +kernel
theorem dX8_init_92 : decode cX8_init 92 = .ok (.newarray .int, 2) := by decide +kernel
theorem dX8_init_94 : decode cX8_init 94 = .ok (.putfield 41, 3) := by decide +kernel
theorem dX8_init_97 : decode cX8_init 97 = .ok (.aload_n 0, 1) := by decide +kernel
theorem dX8_init_98 : decode cX8_init 98 = .ok (.bipush 64, 2) := by decide +kernel
theorem dX8_init_100 : decode cX8_init 100 = .ok (.newarray .int, 2) := by decide +kernel
theorem dX8_init_102 : decode cX8_init 102 = .ok (.putfield 44, 3) := by decide +kernel
theorem dX8_init_105 : decode cX8_init 105 = .ok (.aload_n 0, 1) := by decide +kernel
theorem dX8_init_106 : decode cX8_init 106 = .ok (.sipush 320, 3) := by decide +kernel
theorem dX8_init_109 : decode cX8_init 109 = .ok (.newarray .int, 2) := by decide +kernel
theorem dX8_init_111 : decode cX8_init 111 = .ok (.putfield 47, 3) := by decide +kernel
theorem dX8_init_114 : decode cX8_init 114 = .ok (.aload_n 0, 1) := by decide +kernel
theorem dX8_init_115 : decode cX8_init 115 = .ok (.sipush 320, 3) := by decide +kernel
theorem dX8_init_118 : decode cX8_init 118 = .ok (.newarray .int, 2) := by decide +kernel
theorem dX8_init_120 : decode cX8_init 120 = .ok (.putfield 50, 3) := by decide +kernel
theorem dX8_init_123 : decode cX8_init 123 = .ok (.aload_n 0, 1) := by decide +kernel
theorem dX8_init_124 : decode cX8_init 124 = .ok (.sipush 2560, 3) := by decide +kernel
theorem dX8_init_127 : decode cX8_init 127 = .ok (.newarray .int, 2) := by decide +kernel
theorem dX8_init_129 : decode cX8_init 129 = .ok (.putfield 53, 3) := by decide +kernel
theorem dX8_init_132 : decode cX8_init 132 = .ok (.aload_n 0, 1) := by decide +kernel
theorem dX8_init_133 : decode cX8_init 133 = .ok (.sipush 2560, 3) := by decide +kernel
theorem dX8_init_136 : decode cX8_init 136 = .ok (.newarray .int, 2) := by decide +kernel
theorem dX8_init_138 : decode cX8_init 138 = .ok (.putfield 56, 3) := by decide +kernel
theorem dX8_init_141 : decode cX8_init 141 = .ok (.aload_n 0, 1) := by decide +kernel
theorem dX8_init_142 : decode cX8_init 142 = .ok (.sipush 25600, 3) := by decide +kernel
theorem dX8_init_145 : decode cX8_init 145 = .ok (.newarray .int, 2) := by decide +kernel
theorem dX8_init_147 : decode cX8_init 147 = .ok (.putfield 59, 3) := by decide +kernel
theorem dX8_init_150 : decode cX8_init 150 = .ok (.aload_n 0, 1) := by decide +kernel
theorem dX8_init_151 : decode cX8_init 151 = .ok (.bipush 40, 2) := by decide +kernel
theorem dX8_init_153 : decode cX8_init 153 = .ok (.newarray .int, 2) := by decide +kernel
theorem dX8_init_155 : decode cX8_init 155 = .ok (.putfield 62, 3) := by decide +kernel
theorem dX8_init_158 : decode cX8_init 158 = .ok (.aload_n 0, 1) := by decide +kernel
theorem dX8_init_159 : decode cX8_init 159 = .ok (.bipush 40, 2) := by decide +kernel
theorem dX8_init_161 : decode cX8_init 161 = .ok (.newarray .int, 2) := by decide +kernel
theorem dX8_init_163 : decode cX8_init 163 = .ok (.putfield 65, 3) := by decide +kernel
theorem dX8_init_166 : decode cX8_init 166 = .ok (.aload_n 0, 1) := by decide +kernel
theorem dX8_init_167 : decode cX8_init 167 = .ok (.bipush 40, 2) := by decide +kernel
theorem dX8_init_169 : decode cX8_init 169 = .ok (.newarray .boolean, 2) := by decide +kernel
theorem dX8_init_171 : decode cX8_init 171 = .ok (.putfield 68, 3) := by decide +kernel
theorem dX8_init_174 : decode cX8_init 174 = .ok (.aload_n 0, 1) := by decide +kernel
theorem dX8_init_175 : decode cX8_init 175 = .ok (.bipush 40, 2) := by decide +kernel
theorem dX8_init_177 : decode cX8_init 177 = .ok (.newarray .int, 2) := by decide +kernel
theorem dX8_init_179 : decode cX8_init 179 = .ok (.putfield 71, 3) := by decide +kernel
theorem dX8_init_182 : decode cX8_init 182 = .ok (.aload_n 0, 1) := by decide +kernel
theorem dX8_init_183 : decode cX8_init 183 = .ok (.iconst 0, 1) := by decide +kernel
theorem dX8_init_184 : decode cX8_init 184 = .ok (.putfield 74, 3) := by decide +kernel
theorem dX8_init_187 : decode cX8_init 187 = .ok (.return_, 1) := by decide +kernel
theorem dX8_thrown_0 : decode cX8_thrown 0 = .ok (.aload_n 0, 1) := by decide +kernel
theorem dX8_thrown_1 : decode cX8_thrown 1 = .ok (.getfield 78, 3) := by decide +kernel
theorem dX8_thrown_4 : decode cX8_thrown 4 = .ok (.ireturn, 1) := by decide +kernel
theorem dX8_holds_0 : decode cX8_holds 0 = .ok (.aload_n 0, 1) := by decide +kernel
theorem dX8_holds_1 : decode cX8_holds 1 = .ok (.iload_n 1, 1) := by decide +kernel
theorem dX8_holds_2 : decode cX8_holds 2 = .ok (.putfield 78, 3) := by decide +kernel
theorem dX8_holds_5 : decode cX8_holds 5 = .ok (.iload_n 1, 1) := by decide +kernel
theorem dX8_holds_6 : decode cX8_holds 6 = .ok (.ifCond .ne 7, 3) := by decide +kernel
theorem dX8_holds_9 : decode cX8_holds 9 = .ok (.iconst 1, 1) := by decide +kernel
theorem dX8_holds_10 : decode cX8_holds 10 = .ok (.goto 4, 3) := by decide +kernel
theorem dX8_holds_13 : decode cX8_holds 13 = .ok (.iconst 0, 1) := by decide +kernel
theorem dX8_holds_14 : decode cX8_holds 14 = .ok (.ireturn, 1) := by decide +kernel
theorem dX8_isIn_0 : decode cX8_isIn 0 = .ok (.iload_n 0, 1) := by decide +kernel
theorem dX8_isIn_1 : decode cX8_isIn 1 = .ok (.iload_n 1, 1) := by decide +kernel
theorem dX8_isIn_2 : decode cX8_isIn 2 = .ok (.if_icmp .lt 12, 3) := by decide +kernel
theorem dX8_isIn_5 : decode cX8_isIn 5 = .ok (.iload_n 0, 1) := by decide +kernel
theorem dX8_isIn_6 : decode cX8_isIn 6 = .ok (.iload_n 2, 1) := by decide +kernel
theorem dX8_isIn_7 : decode cX8_isIn 7 = .ok (.if_icmp .gt 7, 3) := by decide +kernel
theorem dX8_isIn_10 : decode cX8_isIn 10 = .ok (.iconst 1, 1) := by decide +kernel
theorem dX8_isIn_11 : decode cX8_isIn 11 = .ok (.goto 4, 3) := by decide +kernel
theorem dX8_isIn_14 : decode cX8_isIn 14 = .ok (.iconst 0, 1) := by decide +kernel
theorem dX8_isIn_15 : decode cX8_isIn 15 = .ok (.ireturn, 1) := by decide +kernel
theorem dX8_isAsset_0 : decode cX8_isAsset 0 = .ok (.iload_n 1, 1) := by decide +kernel
theorem dX8_isAsset_1 : decode cX8_isAsset 1 = .ok (.iconst 0, 1) := by decide +kernel
theorem dX8_isAsset_2 : decode cX8_isAsset 2 = .ok (.aload_n 0, 1) := by decide +kernel
theorem dX8_isAsset_3 : decode cX8_isAsset 3 = .ok (.getfield 74, 3) := by decide +kernel
theorem dX8_isAsset_6 : decode cX8_isAsset 6 = .ok (.iconst 1, 1) := by decide +kernel
theorem dX8_isAsset_7 : decode cX8_isAsset 7 = .ok (.isub, 1) := by decide +kernel
theorem dX8_isAsset_8 : decode cX8_isAsset 8 = .ok (.invokestatic 81, 3) := by decide +kernel
theorem dX8_isAsset_11 : decode cX8_isAsset 11 = .ok (.ireturn, 1) := by decide +kernel
theorem dX8_isScene_0 : decode cX8_isScene 0 = .ok (.iload_n 1, 1) := by decide +kernel
theorem dX8_isScene_1 : decode cX8_isScene 1 = .ok (.iconst 0, 1) := by decide +kernel
theorem dX8_isScene_2 : decode cX8_isScene 2 = .ok (.aload_n 0, 1) := by decide +kernel
theorem dX8_isScene_3 : decode cX8_isScene 3 = .ok (.getfield 85, 3) := by decide +kernel
theorem dX8_isScene_6 : decode cX8_isScene 6 = .ok (.iconst 1, 1) := by decide +kernel
theorem dX8_isScene_7 : decode cX8_isScene 7 = .ok (.isub, 1) := by decide +kernel
theorem dX8_isScene_8 : decode cX8_isScene 8 = .ok (.invokestatic 81, 3) := by decide +kernel
theorem dX8_isScene_11 : decode cX8_isScene 11 = .ok (.ireturn, 1) := by decide +kernel
theorem dX8_isFrame_0 : decode cX8_isFrame 0 = .ok (.aload_n 0, 1) := by decide +kernel
theorem dX8_isFrame_1 : decode cX8_isFrame 1 = .ok (.iload_n 1, 1) := by decide +kernel
theorem dX8_isFrame_2 : decode cX8_isFrame 2 = .ok (.invokevirtual 88, 3) := by decide +kernel
theorem dX8_isFrame_5 : decode cX8_isFrame 5 = .ok (.ifCond .eq 23, 3) := by decide +kernel
theorem dX8_isFrame_8 : decode cX8_isFrame 8 = .ok (.iload_n 2, 1) := by decide +kernel
theorem dX8_isFrame_9 : decode cX8_isFrame 9 = .ok (.iconst 0, 1) := by decide +kernel
theorem dX8_isFrame_10 : decode cX8_isFrame 10 = .ok (.aload_n 0, 1) := by decide +kernel
theorem dX8_isFrame_11 : decode cX8_isFrame 11 = .ok (.getfield 31, 3) := by decide +kernel
theorem dX8_isFrame_14 : decode cX8_isFrame 14 = .ok (.iload_n 1, 1) := by decide +kernel
theorem dX8_isFrame_15 : decode cX8_isFrame 15 = .ok (.iaload, 1) := by decide +kernel
theorem dX8_isFrame_16 : decode cX8_isFrame 16 = .ok (.iconst 1, 1) := by decide +kernel
theorem dX8_isFrame_17 : decode cX8_isFrame 17 = .ok (.isub, 1) := by decide +kernel
theorem dX8_isFrame_18 : decode cX8_isFrame 18 = .ok (.invokestatic 81, 3) := by decide +kernel
theorem dX8_isFrame_21 : decode cX8_isFrame 21 = .ok (.ifCond .eq 7, 3) := by decide +kernel
theorem dX8_isFrame_24 : decode cX8_isFrame 24 = .ok (.iconst 1, 1) := by decide +kernel
theorem dX8_isFrame_25 : decode cX8_isFrame 25 = .ok (.goto 4, 3) := by decide +kernel
theorem dX8_isFrame_28 : decode cX8_isFrame 28 = .ok (.iconst 0, 1) := by decide +kernel
theorem dX8_isFrame_29 : decode cX8_isFrame 29 = .ok (.ireturn, 1) := by decide +kernel
theorem dX8_rigOf_0 : decode cX8_rigOf 0 = .ok (.iload_n 1, 1) := by decide +kernel
theorem dX8_rigOf_1 : decode cX8_rigOf 1 = .ok (.iconst (-1), 1) := by decide +kernel
theorem dX8_rigOf_2 : decode cX8_rigOf 2 = .ok (.if_icmp .ne 7, 3) := by decide +kernel
theorem dX8_rigOf_5 : decode cX8_rigOf 5 = .ok (.iload_n 0, 1) := by decide +kernel
theorem dX8_rigOf_6 : decode cX8_rigOf 6 = .ok (.goto 12, 3) := by decide +kernel
theorem dX8_rigOf_9 : decode cX8_rigOf 9 = .ok (.bipush 8, 2) := by decide +kernel
theorem dX8_rigOf_11 : decode cX8_rigOf 11 = .ok (.bipush 12, 2) := by decide +kernel
theorem dX8_rigOf_13 : decode cX8_rigOf 13 = .ok (.iload_n 0, 1) := by decide +kernel
theorem dX8_rigOf_14 : decode cX8_rigOf 14 = .ok (.imul, 1) := by decide +kernel
theorem dX8_rigOf_15 : decode cX8_rigOf 15 = .ok (.iadd, 1) := by decide +kernel
theorem dX8_rigOf_16 : decode cX8_rigOf 16 = .ok (.iload_n 1, 1) := by decide +kernel
theorem dX8_rigOf_17 : decode cX8_rigOf 17 = .ok (.iadd, 1) := by decide +kernel
theorem dX8_rigOf_18 : decode cX8_rigOf 18 = .ok (.ireturn, 1) := by decide +kernel
theorem dX8_isRig_0 : decode cX8_isRig 0 = .ok (.aload_n 0, 1) := by decide +kernel
theorem dX8_isRig_1 : decode cX8_isRig 1 = .ok (.iload_n 1, 1) := by decide +kernel
theorem dX8_isRig_2 : decode cX8_isRig 2 = .ok (.invokevirtual 92, 3) := by decide +kernel
theorem dX8_isRig_5 : decode cX8_isRig 5 = .ok (.ifCond .eq 23, 3) := by decide +kernel
theorem dX8_isRig_8 : decode cX8_isRig 8 = .ok (.iload_n 2, 1) := by decide +kernel
theorem dX8_isRig_9 : decode cX8_isRig 9 = .ok (.iconst (-1), 1) := by decide +kernel
theorem dX8_isRig_10 : decode cX8_isRig 10 = .ok (.aload_n 0, 1) := by decide +kernel
theorem dX8_isRig_11 : decode cX8_isRig 11 = .ok (.getfield 7, 3) := by decide +kernel
theorem dX8_isRig_14 : decode cX8_isRig 14 = .ok (.iload_n 1, 1) := by decide +kernel
theorem dX8_isRig_15 : decode cX8_isRig 15 = .ok (.iaload, 1) := by decide +kernel
theorem dX8_isRig_16 : decode cX8_isRig 16 = .ok (.iconst 1, 1) := by decide +kernel
theorem dX8_isRig_17 : decode cX8_isRig 17 = .ok (.isub, 1) := by decide +kernel
theorem dX8_isRig_18 : decode cX8_isRig 18 = .ok (.invokestatic 81, 3) := by decide +kernel
theorem dX8_isRig_21 : decode cX8_isRig 21 = .ok (.ifCond .eq 7, 3) := by decide +kernel
theorem dX8_isRig_24 : decode cX8_isRig 24 = .ok (.iconst 1, 1) := by decide +kernel
theorem dX8_isRig_25 : decode cX8_isRig 25 = .ok (.goto 4, 3) := by decide +kernel
theorem dX8_isRig_28 : decode cX8_isRig 28 = .ok (.iconst 0, 1) := by decide +kernel
theorem dX8_isRig_29 : decode cX8_isRig 29 = .ok (.ireturn, 1) := by decide +kernel
theorem dX8_isBone_0 : decode cX8_isBone 0 = .ok (.aload_n 0, 1) := by decide +kernel
theorem dX8_isBone_1 : decode cX8_isBone 1 = .ok (.iload_n 1, 1) := by decide +kernel
theorem dX8_isBone_2 : decode cX8_isBone 2 = .ok (.iload_n 2, 1) := by decide +kernel
theorem dX8_isBone_3 : decode cX8_isBone 3 = .ok (.invokevirtual 95, 3) := by decide +kernel
theorem dX8_isBone_6 : decode cX8_isBone 6 = .ok (.ifCond .eq 27, 3) := by decide +kernel
theorem dX8_isBone_9 : decode cX8_isBone 9 = .ok (.iload_n 3, 1) := by decide +kernel
theorem dX8_isBone_10 : decode cX8_isBone 10 = .ok (.iconst 0, 1) := by decide +kernel
theorem dX8_isBone_11 : decode cX8_isBone 11 = .ok (.aload_n 0, 1) := by decide +kernel
theorem dX8_isBone_12 : decode cX8_isBone 12 = .ok (.getfield 13, 3) := by decide +kernel
theorem dX8_isBone_15 : decode cX8_isBone 15 = .ok (.iload_n 1, 1) := by decide +kernel
theorem dX8_isBone_16 : decode cX8_isBone 16 = .ok (.iload_n 2, 1) := by decide +kernel
theorem dX8_isBone_17 : decode cX8_isBone 17 = .ok (.invokestatic 99, 3) := by decide +kernel
theorem dX8_isBone_20 : decode cX8_isBone 20 = .ok (.iaload, 1) := by decide +kernel
theorem dX8_isBone_21 : decode cX8_isBone 21 = .ok (.iconst 1, 1) := by decide +kernel
theorem dX8_isBone_22 : decode cX8_isBone 22 = .ok (.isub, 1) := by decide +kernel
theorem dX8_isBone_23 : decode cX8_isBone 23 = .ok (.invokestatic 81, 3) := by decide +kernel
theorem dX8_isBone_26 : decode cX8_isBone 26 = .ok (.ifCond .eq 7, 3) := by decide +kernel
theorem dX8_isBone_29 : decode cX8_isBone 29 = .ok (.iconst 1, 1) := by decide +kernel
theorem dX8_isBone_30 : decode cX8_isBone 30 = .ok (.goto 4, 3) := by decide +kernel
theorem dX8_isBone_33 : decode cX8_isBone 33 = .ok (.iconst 0, 1) := by decide +kernel
theorem dX8_isBone_34 : decode cX8_isBone 34 = .ok (.ireturn, 1) := by decide +kernel
theorem dX8_keyAt_0 : decode cX8_keyAt 0 = .ok (.iconst 0, 1) := by decide +kernel
theorem dX8_keyAt_1 : decode cX8_keyAt 1 = .ok (.istore_n 3, 1) := by decide +kernel
theorem dX8_keyAt_2 : decode cX8_keyAt 2 = .ok (.iload_n 3, 1) := by decide +kernel
theorem dX8_keyAt_3 : decode cX8_keyAt 3 = .ok (.aload_n 0, 1) := by decide +kernel
theorem dX8_keyAt_4 : decode cX8_keyAt 4 = .ok (.getfield 19, 3) := by decide +kernel
theorem dX8_keyAt_7 : decode cX8_keyAt 7 = .ok (.iload_n 1, 1) := by decide +kernel
theorem dX8_keyAt_8 : decode cX8_keyAt 8 = .ok (.iaload, 1) := by decide +kernel
theorem dX8_keyAt_9 : decode cX8_keyAt 9 = .ok (.if_icmp .ge 24, 3) := by decide +kernel
theorem dX8_keyAt_12 : decode cX8_keyAt 12 = .ok (.aload_n 0, 1) := by decide +kernel
theorem dX8_keyAt_13 : decode cX8_keyAt 13 = .ok (.getfield 22, 3) := by decide +kernel
theorem dX8_keyAt_16 : decode cX8_keyAt 16 = .ok (.bipush 12, 2) := by decide +kernel
theorem dX8_keyAt_18 : decode cX8_keyAt 18 = .ok (.iload_n 1, 1) := by decide +kernel
theorem dX8_keyAt_19 : decode cX8_keyAt 19 = .ok (.imul, 1) := by decide +kernel
theorem dX8_keyAt_20 : decode cX8_keyAt 20 = .ok (.iload_n 3, 1) := by decide +kernel
theorem dX8_keyAt_21 : decode cX8_keyAt 21 = .ok (.iadd, 1) := by decide +kernel
theorem dX8_keyAt_22 : decode cX8_keyAt 22 = .ok (.iaload, 1) := by decide +kernel
theorem dX8_keyAt_23 : decode cX8_keyAt 23 = .ok (.iload_n 2, 1) := by decide +kernel
theorem dX8_keyAt_24 : decode cX8_keyAt 24 = .ok (.if_icmp .ge 9, 3) := by decide +kernel
theorem dX8_keyAt_27 : decode cX8_keyAt 27 = .ok (.iinc 3 1, 3) := by decide +kernel
theorem dX8_keyAt_30 : decode cX8_keyAt 30 = .ok (.goto (-28), 3) := by decide +kernel
theorem dX8_keyAt_33 : decode cX8_keyAt 33 = .ok (.iload_n 3, 1) := by decide +kernel
theorem dX8_keyAt_34 : decode cX8_keyAt 34 = .ok (.ireturn, 1) := by decide +kernel
theorem dX8_isKeyAt_0 : decode cX8_isKeyAt 0 = .ok (.aload_n 0, 1) := by decide +kernel
theorem dX8_isKeyAt_1 : decode cX8_isKeyAt 1 = .ok (.iload_n 1, 1) := by decide +kernel
theorem dX8_isKeyAt_2 : decode cX8_isKeyAt 2 = .ok (.iload_n 2, 1) := by decide +kernel
theorem dX8_isKeyAt_3 : decode cX8_isKeyAt 3 = .ok (.invokevirtual 103, 3) := by decide +kernel
theorem dX8_isKeyAt_6 : decode cX8_isKeyAt 6 = .ok (.istore_n 3, 1) := by decide +kernel
theorem dX8_isKeyAt_7 : decode cX8_isKeyAt 7 = .ok (.iload_n 3, 1) := by decide +kernel
theorem dX8_isKeyAt_8 : decode cX8_isKeyAt 8 = .ok (.aload_n 0, 1) := by decide +kernel
theorem dX8_isKeyAt_9 : decode cX8_isKeyAt 9 = .ok (.getfield 19, 3) := by decide +kernel
theorem dX8_isKeyAt_12 : decode cX8_isKeyAt 12 = .ok (.iload_n 1, 1) := by decide +kernel
theorem dX8_isKeyAt_13 : decode cX8_isKeyAt 13 = .ok (.iaload, 1) := by decide +kernel
theorem dX8_isKeyAt_14 : decode cX8_isKeyAt 14 = .ok (.if_icmp .ge 22, 3) := by decide +kernel
theorem dX8_isKeyAt_17 : decode cX8_isKeyAt 17 = .ok (.aload_n 0, 1) := by decide +kernel
theorem dX8_isKeyAt_18 : decode cX8_isKeyAt 18 = .ok (.getfield 22, 3) := by decide +kernel
theorem dX8_isKeyAt_21 : decode cX8_isKeyAt 21 = .ok (.bipush 12, 2) := by decide +kernel
theorem dX8_isKeyAt_23 : decode cX8_isKeyAt 23 = .ok (.iload_n 1, 1) := by decide +kernel
theorem dX8_isKeyAt_24 : decode cX8_isKeyAt 24 = .ok (.imul, 1) := by decide +kernel
theorem dX8_isKeyAt_25 : decode cX8_isKeyAt 25 = .ok (.iload_n 3, 1) := by decide +kernel
theorem dX8_isKeyAt_26 : decode cX8_isKeyAt 26 = .ok (.iadd, 1) := by decide +kernel
theorem dX8_isKeyAt_27 : decode cX8_isKeyAt 27 = .ok (.iaload, 1) := by decide +kernel
theorem dX8_isKeyAt_28 : decode cX8_isKeyAt 28 = .ok (.iload_n 2, 1) := by decide +kernel
theorem dX8_isKeyAt_29 : decode cX8_isKeyAt 29 = .ok (.if_icmp .ne 7, 3) := by decide +kernel
theorem dX8_isKeyAt_32 : decode cX8_isKeyAt 32 = .ok (.iconst 1, 1) := by decide +kernel
theorem dX8_isKeyAt_33 : decode cX8_isKeyAt 33 = .ok (.goto 4, 3) := by decide +kernel
theorem dX8_isKeyAt_36 : decode cX8_isKeyAt 36 = .ok (.iconst 0, 1) := by decide +kernel
theorem dX8_isKeyAt_37 : decode cX8_isKeyAt 37 = .ok (.ireturn, 1) := by decide +kernel
theorem dX8_down_0 : decode cX8_down 0 = .ok (.iload_n 0, 1) := by decide +kernel
theorem dX8_down_1 : decode cX8_down 1 = .ok (.ifCond .ge 15, 3) := by decide +kernel
theorem dX8_down_4 : decode cX8_down 4 = .ok (.iload_n 0, 1) := by decide +kernel
theorem dX8_down_5 : decode cX8_down 5 = .ok (.ineg, 1) := by decide +kernel
theorem dX8_down_6 : decode cX8_down 6 = .ok (.iload_n 1, 1) := by decide +kernel
theorem dX8_down_7 : decode cX8_down 7 = .ok (.iadd, 1) := by decide +kernel
theorem dX8_down_8 : decode cX8_down 8 = .ok (.iconst 1, 1) := by decide +kernel
theorem dX8_down_9 : decode cX8_down 9 = .ok (.isub, 1) := by decide +kernel
theorem dX8_down_10 : decode cX8_down 10 = .ok (.iload_n 1, 1) := by decide +kernel
theorem dX8_down_11 : decode cX8_down 11 = .ok (.idiv, 1) := by decide +kernel
theorem dX8_down_12 : decode cX8_down 12 = .ok (.ineg, 1) := by decide +kernel
theorem dX8_down_13 : decode cX8_down 13 = .ok (.goto 6, 3) := by decide +kernel
theorem dX8_down_16 : decode cX8_down 16 = .ok (.iload_n 0, 1) := by decide +kernel
theorem dX8_down_17 : decode cX8_down 17 = .ok (.iload_n 1, 1) := by decide +kernel
theorem dX8_down_18 : decode cX8_down 18 = .ok (.idiv, 1) := by decide +kernel
theorem dX8_down_19 : decode cX8_down 19 = .ok (.ireturn, 1) := by decide +kernel
theorem dX8_valueAt_0 : decode cX8_valueAt 0 = .ok (.aload_n 0, 1) := by decide +kernel
theorem dX8_valueAt_1 : decode cX8_valueAt 1 = .ok (.getfield 19, 3) := by decide +kernel
theorem dX8_valueAt_4 : decode cX8_valueAt 4 = .ok (.iload_n 1, 1) := by decide +kernel
theorem dX8_valueAt_5 : decode cX8_valueAt 5 = .ok (.iaload, 1) := by decide +kernel
theorem dX8_valueAt_6 : decode cX8_valueAt 6 = .ok (.ifCond .ne 5, 3) := by decide +kernel
theorem dX8_valueAt_9 : decode cX8_valueAt 9 = .ok (.iconst 0, 1) := by decide +kernel
theorem dX8_valueAt_10 : decode cX8_valueAt 10 = .ok (.ireturn, 1) := by decide +kernel
theorem dX8_valueAt_11 : decode cX8_valueAt 11 = .ok (.aload_n 0, 1) := by decide +kernel
theorem dX8_valueAt_12 : decode cX8_valueAt 12 = .ok (.iload_n 1, 1) := by decide +kernel
theorem dX8_valueAt_13 : decode cX8_valueAt 13 = .ok (.iload_n 2, 1) := by decide +kernel
theorem dX8_valueAt_14 : decode cX8_valueAt 14 = .ok (.iconst 1, 1) := by decide +kernel
theorem dX8_valueAt_15 : decode cX8_valueAt 15 = .ok (.iadd, 1) := by decide +kernel
theorem dX8_valueAt_16 : decode cX8_valueAt 16 = .ok (.invokevirtual 103, 3) := by decide +kernel
theorem dX8_valueAt_19 : decode cX8_valueAt 19 = .ok (.istore_n 3, 1) := by decide +kernel
theorem dX8_valueAt_20 : decode cX8_valueAt 20 = .ok (.bipush 12, 2) := by decide +kernel
theorem dX8_valueAt_22 : decode cX8_valueAt 22 = .ok (.iload_n 1, 1) := by decide +kernel
theorem dX8_valueAt_23 : decode cX8_valueAt 23 = .ok (.imul, 1) := by decide +kernel
theorem dX8_valueAt_24 : decode cX8_valueAt 24 = .ok (.iload_n 3, 1) := by decide +kernel
theorem dX8_valueAt_25 : decode cX8_valueAt 25 = .ok (.ifCond .ne 7, 3) := by decide +kernel
theorem dX8_valueAt_28 : decode cX8_valueAt 28 = .ok (.iconst 0, 1) := by decide +kernel
theorem dX8_valueAt_29 : decode cX8_valueAt 29 = .ok (.goto 6, 3) := by decide +kernel
theorem dX8_valueAt_32 : decode cX8_valueAt 32 = .ok (.iload_n 3, 1) := by decide +kernel
theorem dX8_valueAt_33 : decode cX8_valueAt 33 = .ok (.iconst 1, 1) := by decide +kernel
theorem dX8_valueAt_34 : decode cX8_valueAt 34 = .ok (.isub, 1) := by decide +kernel
theorem dX8_valueAt_35 : decode cX8_valueAt 35 = .ok (.iadd, 1) := by decide +kernel
theorem dX8_valueAt_36 : decode cX8_valueAt 36 = .ok (.istore 4, 2) := by decide +kernel
theorem dX8_valueAt_38 : decode cX8_valueAt 38 = .ok (.aload_n 0, 1) := by decide +kernel
theorem dX8_valueAt_39 : decode cX8_valueAt 39 = .ok (.getfield 25, 3) := by decide +kernel
theorem dX8_valueAt_42 : decode cX8_valueAt 42 = .ok (.iload 4, 2) := by decide +kernel
theorem dX8_valueAt_44 : decode cX8_valueAt 44 = .ok (.iaload, 1) := by decide +kernel
theorem dX8_valueAt_45 : decode cX8_valueAt 45 = .ok (.istore 5, 2) := by decide +kernel
theorem dX8_valueAt_47 : decode cX8_valueAt 47 = .ok (.iload_n 3, 1) := by decide +kernel
theorem dX8_valueAt_48 : decode cX8_valueAt 48 = .ok (.ifCond .eq 23, 3) := by decide +kernel
theorem dX8_valueAt_51 : decode cX8_valueAt 51 = .ok (.iload_n 3, 1) := by decide +kernel
theorem dX8_valueAt_52 : decode cX8_valueAt 52 = .ok (.aload_n 0, 1) := by decide +kernel
theorem dX8_valueAt_53 : decode cX8_valueAt 53 = .ok (.getfield 19, 3) := by decide +kernel
theorem dX8_valueAt_56 : decode cX8_valueAt 56 = .ok (.iload_n 1, 1) := by decide +kernel
theorem dX8_valueAt_57 : decode cX8_valueAt 57 = .ok (.iaload, 1) := by decide +kernel
theorem dX8_valueAt_58 : decode cX8_valueAt 58 = .ok (.if_icmp .eq 13, 3) := by decide +kernel
theorem dX8_valueAt_61 : decode cX8_valueAt 61 = .ok (.aload_n 0, 1) := by decide +kernel
theorem dX8_valueAt_62 : decode cX8_valueAt 62 = .ok (.getfield 28, 3) := by decide +kernel
theorem dX8_valueAt_65 : decode cX8_valueAt 65 = .ok (.iload 4, 2) := by decide +kernel
theorem dX8_valueAt_67 : decode cX8_valueAt 67 = .ok (.iaload, 1) := by decide +kernel
theorem dX8_valueAt_68 : decode cX8_valueAt 68 = .ok (.ifCond .ne 6, 3) := by decide +kernel
theorem dX8_valueAt_71 : decode cX8_valueAt 71 = .ok (.iload 5, 2) := by decide +kernel
theorem dX8_valueAt_73 : decode cX8_valueAt 73 = .ok (.ireturn, 1) := by decide +kernel
theorem dX8_valueAt_74 : decode cX8_valueAt 74 = .ok (.aload_n 0, 1) := by decide +kernel
theorem dX8_valueAt_75 : decode cX8_valueAt 75 = .ok (.getfield 25, 3) := by decide +kernel
theorem dX8_valueAt_78 : decode cX8_valueAt 78 = .ok (.iload 4, 2) := by decide +kernel
theorem dX8_valueAt_80 : decode cX8_valueAt 80 = .ok (.iconst 1, 1) := by decide +kernel
theorem dX8_valueAt_81 : decode cX8_valueAt 81 = .ok (.iadd, 1) := by decide +kernel
theorem dX8_valueAt_82 : decode cX8_valueAt 82 = .ok (.iaload, 1) := by decide +kernel
theorem dX8_valueAt_83 : decode cX8_valueAt 83 = .ok (.iload 5, 2) := by decide +kernel
theorem dX8_valueAt_85 : decode cX8_valueAt 85 = .ok (.isub, 1) := by decide +kernel
theorem dX8_valueAt_86 : decode cX8_valueAt 86 = .ok (.istore 6, 2) := by decide +kernel
theorem dX8_valueAt_88 : decode cX8_valueAt 88 = .ok (.iload_n 2, 1) := by decide +kernel
theorem dX8_valueAt_89 : decode cX8_valueAt 89 = .ok (.aload_n 0, 1) := by decide +kernel
theorem dX8_valueAt_90 : decode cX8_valueAt 90 = .ok (.getfield 22, 3) := by decide +kernel
theorem dX8_valueAt_93 : decode cX8_valueAt 93 = .ok (.iload 4, 2) := by decide +kernel
theorem dX8_valueAt_95 : decode cX8_valueAt 95 = .ok (.iaload, 1) := by decide +kernel
theorem dX8_valueAt_96 : decode cX8_valueAt 96 = .ok (.isub, 1) := by decide +kernel
theorem dX8_valueAt_97 : decode cX8_valueAt 97 = .ok (.istore 7, 2) := by decide +kernel
theorem dX8_valueAt_99 : decode cX8_valueAt 99 = .ok (.aload_n 0, 1) := by decide +kernel
theorem dX8_valueAt_100 : decode cX8_valueAt 100 = .ok (.getfield 22, 3) := by decide +kernel
theorem dX8_valueAt_103 : decode cX8_valueAt 103 = .ok (.iload 4, 2) := by decide +kernel
theorem dX8_valueAt_105 : decode cX8_valueAt 105 = .ok (.iconst 1, 1) := by decide +kernel
theorem dX8_valueAt_106 : decode cX8_valueAt 106 = .ok (.iadd, 1) := by decide +kernel
theorem dX8_valueAt_107 : decode cX8_valueAt 107 = .ok (.iaload, 1) := by decide +kernel
theorem dX8_valueAt_108 : decode cX8_valueAt 108 = .ok (.aload_n 0, 1) := by decide +kernel
theorem dX8_valueAt_109 : decode cX8_valueAt 109 = .ok (.getfield 22, 3) := by decide +kernel
theorem dX8_valueAt_112 : decode cX8_valueAt 112 = .ok (.iload 4, 2) := by decide +kernel
theorem dX8_valueAt_114 : decode cX8_valueAt 114 = .ok (.iaload, 1) := by decide +kernel
theorem dX8_valueAt_115 : decode cX8_valueAt 115 = .ok (.isub, 1) := by decide +kernel
theorem dX8_valueAt_116 : decode cX8_valueAt 116 = .ok (.istore 8, 2) := by decide +kernel
theorem dX8_valueAt_118 : decode cX8_valueAt 118 = .ok (.iload 5, 2) := by decide +kernel
theorem dX8_valueAt_120 : decode cX8_valueAt 120 = .ok (.aload_n 0, 1) := by decide +kernel
theorem dX8_valueAt_121 : decode cX8_valueAt 121 = .ok (.getfield 28, 3) := by decide +kernel
theorem dX8_valueAt_124 : decode cX8_valueAt 124 = .ok (.iload 4, 2) := by decide +kernel
theorem dX8_valueAt_126 : decode cX8_valueAt 126 = .ok (.iaload, 1) := by decide +kernel
theorem dX8_valueAt_127 : decode cX8_valueAt 127 = .ok (.iconst 1, 1) := by decide +kernel
theorem dX8_valueAt_128 : decode cX8_valueAt 128 = .ok (.if_icmp .ne 16, 3) := by decide +kernel
theorem dX8_valueAt_131 : decode cX8_valueAt 131 = .ok (.iload 6, 2) := by decide +kernel
theorem dX8_valueAt_133 : decode cX8_valueAt 133 = .ok (.iload 7, 2) := by decide +kernel
theorem dX8_valueAt_135 : decode cX8_valueAt 135 = .ok (.imul, 1) := by decide +kernel
theorem dX8_valueAt_136 : decode cX8_valueAt 136 = .ok (.iload 8, 2) := by decide +kernel
theorem dX8_valueAt_138 : decode cX8_valueAt 138 = .ok (.invokestatic 106, 3) := by decide +kernel
theorem dX8_valueAt_141 : decode cX8_valueAt 141 = .ok (.goto 19, 3) := by decide +kernel
theorem dX8_valueAt_144 : decode cX8_valueAt 144 = .ok (.iload 6, 2) := by decide +kernel
theorem dX8_valueAt_146 : decode cX8_valueAt 146 = .ok (.iload 7, 2) := by decide +kernel
theorem dX8_valueAt_148 : decode cX8_valueAt 148 = .ok (.imul, 1) := by decide +kernel
theorem dX8_valueAt_149 : decode cX8_valueAt 149 = .ok (.iload 7, 2) := by decide +kernel
theorem dX8_valueAt_151 : decode cX8_valueAt 151 = .ok (.imul, 1) := by decide +kernel
theorem dX8_valueAt_152 : decode cX8_valueAt 152 = .ok (.iload 8, 2) := by decide +kernel
theorem dX8_valueAt_154 : decode cX8_valueAt 154 = .ok (.iload 8, 2) := by decide +kernel
theorem dX8_valueAt_156 : decode cX8_valueAt 156 = .ok (.imul, 1) := by decide +kernel
theorem dX8_valueAt_157 : decode cX8_valueAt 157 = .ok (.invokestatic 106, 3) := by decide +kernel
theorem dX8_valueAt_160 : decode cX8_valueAt 160 = .ok (.iadd, 1) := by decide +kernel
theorem dX8_valueAt_161 : decode cX8_valueAt 161 = .ok (.ireturn, 1) := by decide +kernel
theorem dX8_poseOf_0 : decode cX8_poseOf 0 = .ok (.iconst 0, 1) := by decide +kernel
theorem dX8_poseOf_1 : decode cX8_poseOf 1 = .ok (.istore 4, 2) := by decide +kernel
theorem dX8_poseOf_3 : decode cX8_poseOf 3 = .ok (.iload_n 2, 1) := by decide +kernel
theorem dX8_poseOf_4 : decode cX8_poseOf 4 = .ok (.istore 5, 2) := by decide +kernel
theorem dX8_poseOf_6 : decode cX8_poseOf 6 = .ok (.iload 5, 2) := by decide +kernel
theorem dX8_poseOf_8 : decode cX8_poseOf 8 = .ok (.iconst (-1), 1) := by decide +kernel
theorem dX8_poseOf_9 : decode cX8_poseOf 9 = .ok (.if_icmp .eq 37, 3) := by decide +kernel
theorem dX8_poseOf_12 : decode cX8_poseOf 12 = .ok (.iload 4, 2) := by decide +kernel
theorem dX8_poseOf_14 : decode cX8_poseOf 14 = .ok (.aload_n 0, 1) := by decide +kernel
theorem dX8_poseOf_15 : decode cX8_poseOf 15 = .ok (.bipush 10, 2) := by decide +kernel
theorem dX8_poseOf_17 : decode cX8_poseOf 17 = .ok (.iload_n 1, 1) := by decide +kernel
theorem dX8_poseOf_18 : decode cX8_poseOf 18 = .ok (.imul, 1) := by decide +kernel
theorem dX8_poseOf_19 : decode cX8_poseOf 19 = .ok (.iload 5, 2) := by decide +kernel
theorem dX8_poseOf_21 : decode cX8_poseOf 21 = .ok (.iadd, 1) := by decide +kernel
theorem dX8_poseOf_22 : decode cX8_poseOf 22 = .ok (.iload_n 3, 1) := by decide +kernel
theorem dX8_poseOf_23 : decode cX8_poseOf 23 = .ok (.invokevirtual 109, 3) := by decide +kernel
theorem dX8_poseOf_26 : decode cX8_poseOf 26 = .ok (.iadd, 1) := by decide +kernel
theorem dX8_poseOf_27 : decode cX8_poseOf 27 = .ok (.istore 4, 2) := by decide +kernel
theorem dX8_poseOf_29 : decode cX8_poseOf 29 = .ok (.aload_n 0, 1) := by decide +kernel
theorem dX8_poseOf_30 : decode cX8_poseOf 30 = .ok (.getfield 16, 3) := by decide +kernel
theorem dX8_poseOf_33 : decode cX8_poseOf 33 = .ok (.bipush 10, 2) := by decide +kernel
theorem dX8_poseOf_35 : decode cX8_poseOf 35 = .ok (.iload_n 1, 1) := by decide +kernel
theorem dX8_poseOf_36 : decode cX8_poseOf 36 = .ok (.imul, 1) := by decide +kernel
theorem dX8_poseOf_37 : decode cX8_poseOf 37 = .ok (.iload 5, 2) := by decide +kernel
theorem dX8_poseOf_39 : decode cX8_poseOf 39 = .ok (.iadd, 1) := by decide +kernel
theorem dX8_poseOf_40 : decode cX8_poseOf 40 = .ok (.iaload, 1) := by decide +kernel
theorem dX8_poseOf_41 : decode cX8_poseOf 41 = .ok (.istore 5, 2) := by decide +kernel
theorem dX8_poseOf_43 : decode cX8_poseOf 43 = .ok (.goto (-37), 3) := by decide +kernel
theorem dX8_poseOf_46 : decode cX8_poseOf 46 = .ok (.iload 4, 2) := by decide +kernel
theorem dX8_poseOf_48 : decode cX8_poseOf 48 = .ok (.ireturn, 1) := by decide +kernel
theorem dX8_asset_0 : decode cX8_asset 0 = .ok (.aload_n 0, 1) := by decide +kernel
theorem dX8_asset_1 : decode cX8_asset 1 = .ok (.aload_n 0, 1) := by decide +kernel
theorem dX8_asset_2 : decode cX8_asset 2 = .ok (.getfield 74, 3) := by decide +kernel
theorem dX8_asset_5 : decode cX8_asset 5 = .ok (.bipush 8, 2) := by decide +kernel
theorem dX8_asset_7 : decode cX8_asset 7 = .ok (.if_icmp .ne 7, 3) := by decide +kernel
theorem dX8_asset_10 : decode cX8_asset 10 = .ok (.iconst 1, 1) := by decide +kernel
theorem dX8_asset_11 : decode cX8_asset 11 = .ok (.goto 4, 3) := by decide +kernel
theorem dX8_asset_14 : decode cX8_asset 14 = .ok (.iconst 0, 1) := by decide +kernel
theorem dX8_asset_15 : decode cX8_asset 15 = .ok (.invokevirtual 112, 3) := by decide +kernel
theorem dX8_asset_18 : decode cX8_asset 18 = .ok (.ifCond .ne 5, 3) := by decide +kernel
theorem dX8_asset_21 : decode cX8_asset 21 = .ok (.iconst 0, 1) := by decide +kernel
theorem dX8_asset_22 : decode cX8_asset 22 = .ok (.ireturn, 1) := by decide +kernel
theorem dX8_asset_23 : decode cX8_asset 23 = .ok (.aload_n 0, 1) := by decide +kernel
theorem dX8_asset_24 : decode cX8_asset 24 = .ok (.dup, 1) := by decide +kernel
theorem dX8_asset_25 : decode cX8_asset 25 = .ok (.getfield 74, 3) := by decide +kernel
theorem dX8_asset_28 : decode cX8_asset 28 = .ok (.iconst 1, 1) := by decide +kernel
theorem dX8_asset_29 : decode cX8_asset 29 = .ok (.iadd, 1) := by decide +kernel
theorem dX8_asset_30 : decode cX8_asset 30 = .ok (.putfield 74, 3) := by decide +kernel
theorem dX8_asset_33 : decode cX8_asset 33 = .ok (.aload_n 0, 1) := by decide +kernel
theorem dX8_asset_34 : decode cX8_asset 34 = .ok (.getfield 74, 3) := by decide +kernel
theorem dX8_asset_37 : decode cX8_asset 37 = .ok (.iconst 1, 1) := by decide +kernel
theorem dX8_asset_38 : decode cX8_asset 38 = .ok (.isub, 1) := by decide +kernel
theorem dX8_asset_39 : decode cX8_asset 39 = .ok (.ireturn, 1) := by decide +kernel
theorem dX8_bone_0 : decode cX8_bone 0 = .ok (.aload_n 0, 1) := by decide +kernel
theorem dX8_bone_1 : decode cX8_bone 1 = .ok (.iload_n 1, 1) := by decide +kernel
theorem dX8_bone_2 : decode cX8_bone 2 = .ok (.invokevirtual 92, 3) := by decide +kernel
theorem dX8_bone_5 : decode cX8_bone 5 = .ok (.ifCond .eq 22, 3) := by decide +kernel
theorem dX8_bone_8 : decode cX8_bone 8 = .ok (.iload_n 2, 1) := by decide +kernel
theorem dX8_bone_9 : decode cX8_bone 9 = .ok (.iconst (-1), 1) := by decide +kernel
theorem dX8_bone_10 : decode cX8_bone 10 = .ok (.if_icmp .eq 13, 3) := by decide +kernel
theorem dX8_bone_13 : decode cX8_bone 13 = .ok (.aload_n 0, 1) := by decide +kernel
theorem dX8_bone_14 : decode cX8_bone 14 = .ok (.iload_n 1, 1) := by decide +kernel
theorem dX8_bone_15 : decode cX8_bone 15 = .ok (.iconst (-1), 1) := by decide +kernel
theorem dX8_bone_16 : decode cX8_bone 16 = .ok (.iload_n 2, 1) := by decide +kernel
theorem dX8_bone_17 : decode cX8_bone 17 = .ok (.invokevirtual 115, 3) := by decide +kernel
theorem dX8_bone_20 : decode cX8_bone 20 = .ok (.ifCond .eq 7, 3) := by decide +kernel
theorem dX8_bone_23 : decode cX8_bone 23 = .ok (.iconst 1, 1) := by decide +kernel
theorem dX8_bone_24 : decode cX8_bone 24 = .ok (.goto 4, 3) := by decide +kernel
theorem dX8_bone_27 : decode cX8_bone 27 = .ok (.iconst 0, 1) := by decide +kernel
theorem dX8_bone_28 : decode cX8_bone 28 = .ok (.istore_n 3, 1) := by decide +kernel
theorem dX8_bone_29 : decode cX8_bone 29 = .ok (.aload_n 0, 1) := by decide +kernel
theorem dX8_bone_30 : decode cX8_bone 30 = .ok (.iload_n 3, 1) := by decide +kernel
theorem dX8_bone_31 : decode cX8_bone 31 = .ok (.ifCond .ne 7, 3) := by decide +kernel
theorem dX8_bone_34 : decode cX8_bone 34 = .ok (.iconst 1, 1) := by decide +kernel
theorem dX8_bone_35 : decode cX8_bone 35 = .ok (.goto 19, 3) := by decide +kernel
theorem dX8_bone_38 : decode cX8_bone 38 = .ok (.aload_n 0, 1) := by decide +kernel
theorem dX8_bone_39 : decode cX8_bone 39 = .ok (.getfield 13, 3) := by decide +kernel
theorem dX8_bone_42 : decode cX8_bone 42 = .ok (.iload_n 1, 1) := by decide +kernel
theorem dX8_bone_43 : decode cX8_bone 43 = .ok (.iaload, 1) := by decide +kernel
theorem dX8_bone_44 : decode cX8_bone 44 = .ok (.bipush 10, 2) := by decide +kernel
theorem dX8_bone_46 : decode cX8_bone 46 = .ok (.if_icmp .ne 7, 3) := by decide +kernel
theorem dX8_bone_49 : decode cX8_bone 49 = .ok (.iconst 2, 1) := by decide +kernel
theorem dX8_bone_50 : decode cX8_bone 50 = .ok (.goto 4, 3) := by decide +kernel
theorem dX8_bone_53 : decode cX8_bone 53 = .ok (.iconst 0, 1) := by decide +kernel
theorem dX8_bone_54 : decode cX8_bone 54 = .ok (.invokevirtual 112, 3) := by decide +kernel
theorem dX8_bone_57 : decode cX8_bone 57 = .ok (.ifCond .ne 5, 3) := by decide +kernel
theorem dX8_bone_60 : decode cX8_bone 60 = .ok (.iconst 0, 1) := by decide +kernel
theorem dX8_bone_61 : decode cX8_bone 61 = .ok (.ireturn, 1) := by decide +kernel
theorem dX8_bone_62 : decode cX8_bone 62 = .ok (.aload_n 0, 1) := by decide +kernel
theorem dX8_bone_63 : decode cX8_bone 63 = .ok (.getfield 16, 3) := by decide +kernel
theorem dX8_bone_66 : decode cX8_bone 66 = .ok (.bipush 10, 2) := by decide +kernel
theorem dX8_bone_68 : decode cX8_bone 68 = .ok (.iload_n 1, 1) := by decide +kernel
theorem dX8_bone_69 : decode cX8_bone 69 = .ok (.imul, 1) := by decide +kernel
theorem dX8_bone_70 : decode cX8_bone 70 = .ok (.aload_n 0, 1) := by decide +kernel
theorem dX8_bone_71 : decode cX8_bone 71 = .ok (.getfield 13, 3) := by decide +kernel
theorem dX8_bone_74 : decode cX8_bone 74 = .ok (.iload_n 1, 1) := by decide +kernel
theorem dX8_bone_75 : decode cX8_bone 75 = .ok (.iaload, 1) := by decide +kernel
theorem dX8_bone_76 : decode cX8_bone 76 = .ok (.iadd, 1) := by decide +kernel
theorem dX8_bone_77 : decode cX8_bone 77 = .ok (.iload_n 2, 1) := by decide +kernel
theorem dX8_bone_78 : decode cX8_bone 78 = .ok (.iastore, 1) := by decide +kernel
theorem dX8_bone_79 : decode cX8_bone 79 = .ok (.aload_n 0, 1) := by decide +kernel
theorem dX8_bone_80 : decode cX8_bone 80 = .ok (.getfield 13, 3) := by decide +kernel
theorem dX8_bone_83 : decode cX8_bone 83 = .ok (.iload_n 1, 1) := by decide +kernel
theorem dX8_bone_84 : decode cX8_bone 84 = .ok (.dup2, 1) := by decide +kernel
theorem dX8_bone_85 : decode cX8_bone 85 = .ok (.iaload, 1) := by decide +kernel
theorem dX8_bone_86 : decode cX8_bone 86 = .ok (.iconst 1, 1) := by decide +kernel
theorem dX8_bone_87 : decode cX8_bone 87 = .ok (.iadd, 1) := by decide +kernel
theorem dX8_bone_88 : decode cX8_bone 88 = .ok (.iastore, 1) := by decide +kernel
theorem dX8_bone_89 : decode cX8_bone 89 = .ok (.aload_n 0, 1) := by decide +kernel
theorem dX8_bone_90 : decode cX8_bone 90 = .ok (.getfield 13, 3) := by decide +kernel
theorem dX8_bone_93 : decode cX8_bone 93 = .ok (.iload_n 1, 1) := by decide +kernel
theorem dX8_bone_94 : decode cX8_bone 94 = .ok (.iaload, 1) := by decide +kernel
theorem dX8_bone_95 : decode cX8_bone 95 = .ok (.iconst 1, 1) := by decide +kernel
theorem dX8_bone_96 : decode cX8_bone 96 = .ok (.isub, 1) := by decide +kernel
theorem dX8_bone_97 : decode cX8_bone 97 = .ok (.ireturn, 1) := by decide +kernel
theorem dX8_laysKey_0 : decode cX8_laysKey 0 = .ok (.aload_n 0, 1) := by decide +kernel
theorem dX8_laysKey_1 : decode cX8_laysKey 1 = .ok (.getfield 22, 3) := by decide +kernel
theorem dX8_laysKey_4 : decode cX8_laysKey 4 = .ok (.iload_n 1, 1) := by decide +kernel
theorem dX8_laysKey_5 : decode cX8_laysKey 5 = .ok (.iload_n 2, 1) := by decide +kernel
theorem dX8_laysKey_6 : decode cX8_laysKey 6 = .ok (.iastore, 1) := by decide +kernel
theorem dX8_laysKey_7 : decode cX8_laysKey 7 = .ok (.aload_n 0, 1) := by decide +kernel
theorem dX8_laysKey_8 : decode cX8_laysKey 8 = .ok (.getfield 25, 3) := by decide +kernel
theorem dX8_laysKey_11 : decode cX8_laysKey 11 = .ok (.iload_n 1, 1) := by decide +kernel
theorem dX8_laysKey_12 : decode cX8_laysKey 12 = .ok (.iload_n 3, 1) := by decide +kernel
theorem dX8_laysKey_13 : decode cX8_laysKey 13 = .ok (.iastore, 1) := by decide +kernel
theorem dX8_laysKey_14 : decode cX8_laysKey 14 = .ok (.aload_n 0, 1) := by decide +kernel
theorem dX8_laysKey_15 : decode cX8_laysKey 15 = .ok (.getfield 28, 3) := by decide +kernel
theorem dX8_laysKey_18 : decode cX8_laysKey 18 = .ok (.iload_n 1, 1) := by decide +kernel
theorem dX8_laysKey_19 : decode cX8_laysKey 19 = .ok (.iload 4, 2) := by decide +kernel
theorem dX8_laysKey_21 : decode cX8_laysKey 21 = .ok (.iastore, 1) := by decide +kernel
theorem dX8_laysKey_22 : decode cX8_laysKey 22 = .ok (.return_, 1) := by decide +kernel
theorem dX8_copiesKey_0 : decode cX8_copiesKey 0 = .ok (.aload_n 0, 1) := by decide +kernel
theorem dX8_copiesKey_1 : decode cX8_copiesKey 1 = .ok (.iload_n 2, 1) := by decide +kernel
theorem dX8_copiesKey_2 : decode cX8_copiesKey 2 = .ok (.aload_n 0, 1) := by decide +kernel
theorem dX8_copiesKey_3 : decode cX8_copiesKey 3 = .ok (.getfield 22, 3) := by decide +kernel
theorem dX8_copiesKey_6 : decode cX8_copiesKey 6 = .ok (.iload_n 1, 1) := by decide +kernel
theorem dX8_copiesKey_7 : decode cX8_copiesKey 7 = .ok (.iaload, 1) := by decide +kernel
theorem dX8_copiesKey_8 : decode cX8_copiesKey 8 = .ok (.aload_n 0, 1) := by decide +kernel
theorem dX8_copiesKey_9 : decode cX8_copiesKey 9 = .ok (.getfield 25, 3) := by decide +kernel
theorem dX8_copiesKey_12 : decode cX8_copiesKey 12 = .ok (.iload_n 1, 1) := by decide +kernel
theorem dX8_copiesKey_13 : decode cX8_copiesKey 13 = .ok (.iaload, 1) := by decide +kernel
theorem dX8_copiesKey_14 : decode cX8_copiesKey 14 = .ok (.aload_n 0, 1) := by decide +kernel
theorem dX8_copiesKey_15 : decode cX8_copiesKey 15 = .ok (.getfield 28, 3) := by decide +kernel
theorem dX8_copiesKey_18 : decode cX8_copiesKey 18 = .ok (.iload_n 1, 1) := by decide +kernel
theorem dX8_copiesKey_19 : decode cX8_copiesKey 19 = .ok (.iaload, 1) := by decide +kernel
theorem dX8_copiesKey_20 : decode cX8_copiesKey 20 = .ok (.invokevirtual 118, 3) := by decide +kernel
theorem dX8_copiesKey_23 : decode cX8_copiesKey 23 = .ok (.return_, 1) := by decide +kernel
theorem dX8_key_0 : decode cX8_key 0 = .ok (.aload_n 0, 1) := by decide +kernel
theorem dX8_key_1 : decode cX8_key 1 = .ok (.iload_n 1, 1) := by decide +kernel
theorem dX8_key_2 : decode cX8_key 2 = .ok (.iconst (-1), 1) := by decide +kernel
theorem dX8_key_3 : decode cX8_key 3 = .ok (.iload_n 2, 1) := by decide +kernel
theorem dX8_key_4 : decode cX8_key 4 = .ok (.invokevirtual 115, 3) := by decide +kernel
theorem dX8_key_7 : decode cX8_key 7 = .ok (.istore 6, 2) := by decide +kernel
theorem dX8_key_9 : decode cX8_key 9 = .ok (.iload_n 3, 1) := by decide +kernel
theorem dX8_key_10 : decode cX8_key 10 = .ok (.iconst 0, 1) := by decide +kernel
theorem dX8_key_11 : decode cX8_key 11 = .ok (.bipush 99, 2) := by decide +kernel
theorem dX8_key_13 : decode cX8_key 13 = .ok (.invokestatic 81, 3) := by decide +kernel
theorem dX8_key_16 : decode cX8_key 16 = .ok (.ifCond .eq 31, 3) := by decide +kernel
theorem dX8_key_19 : decode cX8_key 19 = .ok (.iload 4, 2) := by decide +kernel
theorem dX8_key_21 : decode cX8_key 21 = .ok (.sipush (-999), 3) := by decide +kernel
theorem dX8_key_24 : decode cX8_key 24 = .ok (.sipush 999, 3) := by decide +kernel
theorem dX8_key_27 : decode cX8_key 27 = .ok (.invokestatic 81, 3) := by decide +kernel
theorem dX8_key_30 : decode cX8_key 30 = .ok (.ifCond .eq 17, 3) := by decide +kernel
theorem dX8_key_33 : decode cX8_key 33 = .ok (.iload 5, 2) := by decide +kernel
theorem dX8_key_35 : decode cX8_key 35 = .ok (.iconst 0, 1) := by decide +kernel
theorem dX8_key_36 : decode cX8_key 36 = .ok (.iconst 2, 1) := by decide +kernel
theorem dX8_key_37 : decode cX8_key 37 = .ok (.invokestatic 81, 3) := by decide +kernel
theorem dX8_key_40 : decode cX8_key 40 = .ok (.ifCond .eq 7, 3) := by decide +kernel
theorem dX8_key_43 : decode cX8_key 43 = .ok (.iconst 1, 1) := by decide +kernel
theorem dX8_key_44 : decode cX8_key 44 = .ok (.goto 4, 3) := by decide +kernel
theorem dX8_key_47 : decode cX8_key 47 = .ok (.iconst 0, 1) := by decide +kernel
theorem dX8_key_48 : decode cX8_key 48 = .ok (.istore 7, 2) := by decide +kernel
theorem dX8_key_50 : decode cX8_key 50 = .ok (.iload 6, 2) := by decide +kernel
theorem dX8_key_52 : decode cX8_key 52 = .ok (.ifCond .eq 12, 3) := by decide +kernel
theorem dX8_key_55 : decode cX8_key 55 = .ok (.bipush 10, 2) := by decide +kernel
theorem dX8_key_57 : decode cX8_key 57 = .ok (.iload_n 1, 1) := by decide +kernel
theorem dX8_key_58 : decode cX8_key 58 = .ok (.imul, 1) := by decide +kernel
theorem dX8_key_59 : decode cX8_key 59 = .ok (.iload_n 2, 1) := by decide +kernel
theorem dX8_key_60 : decode cX8_key 60 = .ok (.iadd, 1) := by decide +kernel
theorem dX8_key_61 : decode cX8_key 61 = .ok (.goto 4, 3) := by decide +kernel
theorem dX8_key_64 : decode cX8_key 64 = .ok (.iconst 0, 1) := by decide +kernel
theorem dX8_key_65 : decode cX8_key 65 = .ok (.istore 8, 2) := by decide +kernel
theorem dX8_key_67 : decode cX8_key 67 = .ok (.aload_n 0, 1) := by decide +kernel
theorem dX8_key_68 : decode cX8_key 68 = .ok (.iload 6, 2) := by decide +kernel
theorem dX8_key_70 : decode cX8_key 70 = .ok (.ifCond .ne 7, 3) := by decide +kernel
theorem dX8_key_73 : decode cX8_key 73 = .ok (.iconst 1, 1) := by decide +kernel
theorem dX8_key_74 : decode cX8_key 74 = .ok (.goto 39, 3) := by decide +kernel
theorem dX8_key_77 : decode cX8_key 77 = .ok (.iload 7, 2) := by decide +kernel
theorem dX8_key_79 : decode cX8_key 79 = .ok (.ifCond .ne 7, 3) := by decide +kernel
theorem dX8_key_82 : decode cX8_key 82 = .ok (.iconst 2, 1) := by decide +kernel
theorem dX8_key_83 : decode cX8_key 83 = .ok (.goto 30, 3) := by decide +kernel
theorem dX8_key_86 : decode cX8_key 86 = .ok (.aload_n 0, 1) := by decide +kernel
theorem dX8_key_87 : decode cX8_key 87 = .ok (.getfield 19, 3) := by decide +kernel
theorem dX8_key_90 : decode cX8_key 90 = .ok (.iload 8, 2) := by decide +kernel
theorem dX8_key_92 : decode cX8_key 92 = .ok (.iaload, 1) := by decide +kernel
theorem dX8_key_93 : decode cX8_key 93 = .ok (.bipush 12, 2) := by decide +kernel
theorem dX8_key_95 : decode cX8_key 95 = .ok (.if_icmp .ne 17, 3) := by decide +kernel
theorem dX8_key_98 : decode cX8_key 98 = .ok (.aload_n 0, 1) := by decide +kernel
theorem dX8_key_99 : decode cX8_key 99 = .ok (.iload 8, 2) := by decide +kernel
theorem dX8_key_101 : decode cX8_key 101 = .ok (.iload_n 3, 1) := by decide +kernel
theorem dX8_key_102 : decode cX8_key 102 = .ok (.invokevirtual 122, 3) := by decide +kernel
theorem dX8_key_105 : decode cX8_key 105 = .ok (.ifCond .ne 7, 3) := by decide +kernel
theorem dX8_key_108 : decode cX8_key 108 = .ok (.iconst 3, 1) := by decide +kernel
theorem dX8_key_109 : decode cX8_key 109 = .ok (.goto 4, 3) := by decide +kernel
theorem dX8_key_112 : decode cX8_key 112 = .ok (.iconst 0, 1) := by decide +kernel
theorem dX8_key_113 : decode cX8_key 113 = .ok (.invokevirtual 112, 3) := by decide +kernel
theorem dX8_key_116 : decode cX8_key 116 = .ok (.ifCond .ne 5, 3) := by decide +kernel
theorem dX8_key_119 : decode cX8_key 119 = .ok (.iconst 0, 1) := by decide +kernel
theorem dX8_key_120 : decode cX8_key 120 = .ok (.ireturn, 1) := by decide +kernel
theorem dX8_key_121 : decode cX8_key 121 = .ok (.aload_n 0, 1) := by decide +kernel
theorem dX8_key_122 : decode cX8_key 122 = .ok (.iload 8, 2) := by decide +kernel
theorem dX8_key_124 : decode cX8_key 124 = .ok (.iload_n 3, 1) := by decide +kernel
theorem dX8_key_125 : decode cX8_key 125 = .ok (.invokevirtual 103, 3) := by decide +kernel
theorem dX8_key_128 : decode cX8_key 128 = .ok (.istore 9, 2) := by decide +kernel
theorem dX8_key_130 : decode cX8_key 130 = .ok (.aload_n 0, 1) := by decide +kernel
theorem dX8_key_131 : decode cX8_key 131 = .ok (.iload 8, 2) := by decide +kernel
theorem dX8_key_133 : decode cX8_key 133 = .ok (.iload_n 3, 1) := by decide +kernel
theorem dX8_key_134 : decode cX8_key 134 = .ok (.invokevirtual 122, 3) := by decide +kernel
theorem dX8_key_137 : decode cX8_key 137 = .ok (.ifCond .ne 58, 3) := by decide +kernel
theorem dX8_key_140 : decode cX8_key 140 = .ok (.aload_n 0, 1) := by decide +kernel
theorem dX8_key_141 : decode cX8_key 141 = .ok (.getfield 19, 3) := by decide +kernel
theorem dX8_key_144 : decode cX8_key 144 = .ok (.iload 8, 2) := by decide +kernel
theorem dX8_key_146 : decode cX8_key 146 = .ok (.iaload, 1) := by decide +kernel
theorem dX8_key_147 : decode cX8_key 147 = .ok (.istore 10, 2) := by decide +kernel
theorem dX8_key_149 : decode cX8_key 149 = .ok (.iload 10, 2) := by decide +kernel
theorem dX8_key_151 : decode cX8_key 151 = .ok (.iload 9, 2) := by decide +kernel
theorem dX8_key_153 : decode cX8_key 153 = .ok (.if_icmp .le 31, 3) := by decide +kernel
theorem dX8_key_156 : decode cX8_key 156 = .ok (.aload_n 0, 1) := by decide +kernel
theorem dX8_key_157 : decode cX8_key 157 = .ok (.bipush 12, 2) := by decide +kernel
theorem dX8_key_159 : decode cX8_key 159 = .ok (.iload 8, 2) := by decide +kernel
theorem dX8_key_161 : decode cX8_key 161 = .ok (.imul, 1) := by decide +kernel
theorem dX8_key_162 : decode cX8_key 162 = .ok (.iload 10, 2) := by decide +kernel
theorem dX8_key_164 : decode cX8_key 164 = .ok (.iadd, 1) := by decide +kernel
theorem dX8_key_165 : decode cX8_key 165 = .ok (.iconst 1, 1) := by decide +kernel
theorem dX8_key_166 : decode cX8_key 166 = .ok (.isub, 1) := by decide +kernel
theorem dX8_key_167 : decode cX8_key 167 = .ok (.bipush 12, 2) := by decide +kernel
theorem dX8_key_169 : decode cX8_key 169 = .ok (.iload 8, 2) := by decide +kernel
theorem dX8_key_171 : decode cX8_key 171 = .ok (.imul, 1) := by decide +kernel
theorem dX8_key_172 : decode cX8_key 172 = .ok (.iload 10, 2) := by decide +kernel
theorem dX8_key_174 : decode cX8_key 174 = .ok (.iadd, 1) := by decide +kernel
theorem dX8_key_175 : decode cX8_key 175 = .ok (.invokevirtual 125, 3) := by decide +kernel
theorem dX8_key_178 : decode cX8_key 178 = .ok (.iinc 10 (-1), 3) := by decide +kernel
theorem dX8_key_181 : decode cX8_key 181 = .ok (.goto (-32), 3) := by decide +kernel
theorem dX8_key_184 : decode cX8_key 184 = .ok (.aload_n 0, 1) := by decide +kernel
theorem dX8_key_185 : decode cX8_key 185 = .ok (.getfield 19, 3) := by decide +kernel
theorem dX8_key_188 : decode cX8_key 188 = .ok (.iload 8, 2) := by decide +kernel
theorem dX8_key_190 : decode cX8_key 190 = .ok (.dup2, 1) := by decide +kernel
theorem dX8_key_191 : decode cX8_key 191 = .ok (.iaload, 1) := by decide +kernel
theorem dX8_key_192 : decode cX8_key 192 = .ok (.iconst 1, 1) := by decide +kernel
theorem dX8_key_193 : decode cX8_key 193 = .ok (.iadd, 1) := by decide +kernel
theorem dX8_key_194 : decode cX8_key 194 = .ok (.iastore, 1) := by decide +kernel
theorem dX8_key_195 : decode cX8_key 195 = .ok (.aload_n 0, 1) := by decide +kernel
theorem dX8_key_196 : decode cX8_key 196 = .ok (.bipush 12, 2) := by decide +kernel
theorem dX8_key_198 : decode cX8_key 198 = .ok (.iload 8, 2) := by decide +kernel
theorem dX8_key_200 : decode cX8_key 200 = .ok (.imul, 1) := by decide +kernel
theorem dX8_key_201 : decode cX8_key 201 = .ok (.iload 9, 2) := by decide +kernel
theorem dX8_key_203 : decode cX8_key 203 = .ok (.iadd, 1) := by decide +kernel
theorem dX8_key_204 : decode cX8_key 204 = .ok (.iload_n 3, 1) := by decide +kernel
theorem dX8_key_205 : decode cX8_key 205 = .ok (.iload 4, 2) := by decide +kernel
theorem dX8_key_207 : decode cX8_key 207 = .ok (.iload 5, 2) := by decide +kernel
theorem dX8_key_209 : decode cX8_key 209 = .ok (.invokevirtual 118, 3) := by decide +kernel
theorem dX8_key_212 : decode cX8_key 212 = .ok (.aload_n 0, 1) := by decide +kernel
theorem dX8_key_213 : decode cX8_key 213 = .ok (.getfield 19, 3) := by decide +kernel
theorem dX8_key_216 : decode cX8_key 216 = .ok (.iload 8, 2) := by decide +kernel
theorem dX8_key_218 : decode cX8_key 218 = .ok (.iaload, 1) := by decide +kernel
theorem dX8_key_219 : decode cX8_key 219 = .ok (.ireturn, 1) := by decide +kernel
theorem dX8_unkey_0 : decode cX8_unkey 0 = .ok (.aload_n 0, 1) := by decide +kernel
theorem dX8_unkey_1 : decode cX8_unkey 1 = .ok (.iload_n 1, 1) := by decide +kernel
theorem dX8_unkey_2 : decode cX8_unkey 2 = .ok (.iconst (-1), 1) := by decide +kernel
theorem dX8_unkey_3 : decode cX8_unkey 3 = .ok (.iload_n 2, 1) := by decide +kernel
theorem dX8_unkey_4 : decode cX8_unkey 4 = .ok (.invokevirtual 115, 3) := by decide +kernel
theorem dX8_unkey_7 : decode cX8_unkey 7 = .ok (.istore 4, 2) := by decide +kernel
theorem dX8_unkey_9 : decode cX8_unkey 9 = .ok (.iload 4, 2) := by decide +kernel
theorem dX8_unkey_11 : decode cX8_unkey 11 = .ok (.ifCond .eq 12, 3) := by decide +kernel
theorem dX8_unkey_14 : decode cX8_unkey 14 = .ok (.bipush 10, 2) := by decide +kernel
theorem dX8_unkey_16 : decode cX8_unkey 16 = .ok (.iload_n 1, 1) := by decide +kernel
theorem dX8_unkey_17 : decode cX8_unkey 17 = .ok (.imul, 1) := by decide +kernel
theorem dX8_unkey_18 : decode cX8_unkey 18 = .ok (.iload_n 2, 1) := by decide +kernel
theorem dX8_unkey_19 : decode cX8_unkey 19 = .ok (.iadd, 1) := by decide +kernel
theorem dX8_unkey_20 : decode cX8_unkey 20 = .ok (.goto 4, 3) := by decide +kernel
theorem dX8_unkey_23 : decode cX8_unkey 23 = .ok (.iconst 0, 1) := by decide +kernel
theorem dX8_unkey_24 : decode cX8_unkey 24 = .ok (.istore 5, 2) := by decide +kernel
theorem dX8_unkey_26 : decode cX8_unkey 26 = .ok (.aload_n 0, 1) := by decide +kernel
theorem dX8_unkey_27 : decode cX8_unkey 27 = .ok (.iload 4, 2) := by decide +kernel
theorem dX8_unkey_29 : decode cX8_unkey 29 = .ok (.ifCond .ne 7, 3) := by decide +kernel
theorem dX8_unkey_32 : decode cX8_unkey 32 = .ok (.iconst 1, 1) := by decide +kernel
theorem dX8_unkey_33 : decode cX8_unkey 33 = .ok (.goto 18, 3) := by decide +kernel
theorem dX8_unkey_36 : decode cX8_unkey 36 = .ok (.iload_n 3, 1) := by decide +kernel
theorem dX8_unkey_37 : decode cX8_unkey 37 = .ok (.iconst 0, 1) := by decide +kernel
theorem dX8_unkey_38 : decode cX8_unkey 38 = .ok (.bipush 99, 2) := by decide +kernel
theorem dX8_unkey_40 : decode cX8_unkey 40 = .ok (.invokestatic 81, 3) := by decide +kernel
theorem dX8_unkey_43 : decode cX8_unkey 43 = .ok (.ifCond .ne 7, 3) := by decide +kernel
theorem dX8_unkey_46 : decode cX8_unkey 46 = .ok (.iconst 2, 1) := by decide +kernel
theorem dX8_unkey_47 : decode cX8_unkey 47 = .ok (.goto 4, 3) := by decide +kernel
theorem dX8_unkey_50 : decode cX8_unkey 50 = .ok (.iconst 0, 1) := by decide +kernel
theorem dX8_unkey_51 : decode cX8_unkey 51 = .ok (.invokevirtual 112, 3) := by decide +kernel
theorem dX8_unkey_54 : decode cX8_unkey 54 = .ok (.ifCond .eq 13, 3) := by decide +kernel
theorem dX8_unkey_57 : decode cX8_unkey 57 = .ok (.aload_n 0, 1) := by decide +kernel
theorem dX8_unkey_58 : decode cX8_unkey 58 = .ok (.iload 5, 2) := by decide +kernel
theorem dX8_unkey_60 : decode cX8_unkey 60 = .ok (.iload_n 3, 1) := by decide +kernel
theorem dX8_unkey_61 : decode cX8_unkey 61 = .ok (.invokevirtual 122, 3) := by decide +kernel
theorem dX8_unkey_64 : decode cX8_unkey 64 = .ok (.ifCond .ne 5, 3) := by decide +kernel
theorem dX8_unkey_67 : decode cX8_unkey 67 = .ok (.iconst 0, 1) := by decide +kernel
theorem dX8_unkey_68 : decode cX8_unkey 68 = .ok (.ireturn, 1) := by decide +kernel
theorem dX8_unkey_69 : decode cX8_unkey 69 = .ok (.aload_n 0, 1) := by decide +kernel
theorem dX8_unkey_70 : decode cX8_unkey 70 = .ok (.getfield 19, 3) := by decide +kernel
theorem dX8_unkey_73 : decode cX8_unkey 73 = .ok (.iload 5, 2) := by decide +kernel
theorem dX8_unkey_75 : decode cX8_unkey 75 = .ok (.dup2, 1) := by decide +kernel
theorem dX8_unkey_76 : decode cX8_unkey 76 = .ok (.iaload, 1) := by decide +kernel
theorem dX8_unkey_77 : decode cX8_unkey 77 = .ok (.iconst 1, 1) := by decide +kernel
theorem dX8_unkey_78 : decode cX8_unkey 78 = .ok (.isub, 1) := by decide +kernel
theorem dX8_unkey_79 : decode cX8_unkey 79 = .ok (.iastore, 1) := by decide +kernel
theorem dX8_unkey_80 : decode cX8_unkey 80 = .ok (.aload_n 0, 1) := by decide +kernel
theorem dX8_unkey_81 : decode cX8_unkey 81 = .ok (.iload 5, 2) := by decide +kernel
theorem dX8_unkey_83 : decode cX8_unkey 83 = .ok (.iload_n 3, 1) := by decide +kernel
theorem dX8_unkey_84 : decode cX8_unkey 84 = .ok (.invokevirtual 103, 3) := by decide +kernel
theorem dX8_unkey_87 : decode cX8_unkey 87 = .ok (.istore 6, 2) := by decide +kernel
theorem dX8_unkey_89 : decode cX8_unkey 89 = .ok (.iload 6, 2) := by decide +kernel
theorem dX8_unkey_91 : decode cX8_unkey 91 = .ok (.aload_n 0, 1) := by decide +kernel
theorem dX8_unkey_92 : decode cX8_unkey 92 = .ok (.getfield 19, 3) := by decide +kernel
theorem dX8_unkey_95 : decode cX8_unkey 95 = .ok (.iload 5, 2) := by decide +kernel
theorem dX8_unkey_97 : decode cX8_unkey 97 = .ok (.iaload, 1) := by decide +kernel
theorem dX8_unkey_98 : decode cX8_unkey 98 = .ok (.if_icmp .ge 31, 3) := by decide +kernel
theorem dX8_unkey_101 : decode cX8_unkey 101 = .ok (.aload_n 0, 1) := by decide +kernel
theorem dX8_unkey_102 : decode cX8_unkey 102 = .ok (.bipush 12, 2) := by decide +kernel
theorem dX8_unkey_104 : decode cX8_unkey 104 = .ok (.iload 5, 2) := by decide +kernel
theorem dX8_unkey_106 : decode cX8_unkey 106 = .ok (.imul, 1) := by decide +kernel
theorem dX8_unkey_107 : decode cX8_unkey 107 = .ok (.iload 6, 2) := by decide +kernel
theorem dX8_unkey_109 : decode cX8_unkey 109 = .ok (.iadd, 1) := by decide +kernel
theorem dX8_unkey_110 : decode cX8_unkey 110 = .ok (.iconst 1, 1) := by decide +kernel
theorem dX8_unkey_111 : decode cX8_unkey 111 = .ok (.iadd, 1) := by decide +kernel
theorem dX8_unkey_112 : decode cX8_unkey 112 = .ok (.bipush 12, 2) := by decide +kernel
theorem dX8_unkey_114 : decode cX8_unkey 114 = .ok (.iload 5, 2) := by decide +kernel
theorem dX8_unkey_116 : decode cX8_unkey 116 = .ok (.imul, 1) := by decide +kernel
theorem dX8_unkey_117 : decode cX8_unkey 117 = .ok (.iload 6, 2) := by decide +kernel
theorem dX8_unkey_119 : decode cX8_unkey 119 = .ok (.iadd, 1) := by decide +kernel
theorem dX8_unkey_120 : decode cX8_unkey 120 = .ok (.invokevirtual 125, 3) := by decide +kernel
theorem dX8_unkey_123 : decode cX8_unkey 123 = .ok (.iinc 6 1, 3) := by decide +kernel
theorem dX8_unkey_126 : decode cX8_unkey 126 = .ok (.goto (-37), 3) := by decide +kernel
theorem dX8_unkey_129 : decode cX8_unkey 129 = .ok (.iconst 1, 1) := by decide +kernel
theorem dX8_unkey_130 : decode cX8_unkey 130 = .ok (.ireturn, 1) := by decide +kernel
theorem dX8_publish_0 : decode cX8_publish 0 = .ok (.aload_n 0, 1) := by decide +kernel
theorem dX8_publish_1 : decode cX8_publish 1 = .ok (.iload_n 1, 1) := by decide +kernel
theorem dX8_publish_2 : decode cX8_publish 2 = .ok (.invokevirtual 92, 3) := by decide +kernel
theorem dX8_publish_5 : decode cX8_publish 5 = .ok (.istore_n 2, 1) := by decide +kernel
theorem dX8_publish_6 : decode cX8_publish 6 = .ok (.aload_n 0, 1) := by decide +kernel
theorem dX8_publish_7 : decode cX8_publish 7 = .ok (.iload_n 2, 1) := by decide +kernel
theorem dX8_publish_8 : decode cX8_publish 8 = .ok (.ifCond .ne 7, 3) := by decide +kernel
theorem dX8_publish_11 : decode cX8_publish 11 = .ok (.iconst 1, 1) := by decide +kernel
theorem dX8_publish_12 : decode cX8_publish 12 = .ok (.goto 28, 3) := by decide +kernel
theorem dX8_publish_15 : decode cX8_publish 15 = .ok (.aload_n 0, 1) := by decide +kernel
theorem dX8_publish_16 : decode cX8_publish 16 = .ok (.getfield 7, 3) := by decide +kernel
theorem dX8_publish_19 : decode cX8_publish 19 = .ok (.iload_n 1, 1) := by decide +kernel
theorem dX8_publish_20 : decode cX8_publish 20 = .ok (.iaload, 1) := by decide +kernel
theorem dX8_publish_21 : decode cX8_publish 21 = .ok (.bipush 12, 2) := by decide +kernel
theorem dX8_publish_23 : decode cX8_publish 23 = .ok (.if_icmp .eq 12, 3) := by decide +kernel
theorem dX8_publish_26 : decode cX8_publish 26 = .ok (.aload_n 0, 1) := by decide +kernel
theorem dX8_publish_27 : decode cX8_publish 27 = .ok (.getfield 13, 3) := by decide +kernel
theorem dX8_publish_30 : decode cX8_publish 30 = .ok (.iload_n 1, 1) := by decide +kernel
theorem dX8_publish_31 : decode cX8_publish 31 = .ok (.iaload, 1) := by decide +kernel
theorem dX8_publish_32 : decode cX8_publish 32 = .ok (.ifCond .ne 7, 3) := by decide +kernel
theorem dX8_publish_35 : decode cX8_publish 35 = .ok (.iconst 2, 1) := by decide +kernel
theorem dX8_publish_36 : decode cX8_publish 36 = .ok (.goto 4, 3) := by decide +kernel
theorem dX8_publish_39 : decode cX8_publish 39 = .ok (.iconst 0, 1) := by decide +kernel
theorem dX8_publish_40 : decode cX8_publish 40 = .ok (.invokevirtual 112, 3) := by decide +kernel
theorem dX8_publish_43 : decode cX8_publish 43 = .ok (.ifCond .ne 5, 3) := by decide +kernel
theorem dX8_publish_46 : decode cX8_publish 46 = .ok (.iconst 0, 1) := by decide +kernel
theorem dX8_publish_47 : decode cX8_publish 47 = .ok (.ireturn, 1) := by decide +kernel
theorem dX8_publish_48 : decode cX8_publish 48 = .ok (.iload_n 1, 1) := by decide +kernel
theorem dX8_publish_49 : decode cX8_publish 49 = .ok (.aload_n 0, 1) := by decide +kernel
theorem dX8_publish_50 : decode cX8_publish 50 = .ok (.getfield 7, 3) := by decide +kernel
theorem dX8_publish_53 : decode cX8_publish 53 = .ok (.iload_n 1, 1) := by decide +kernel
theorem dX8_publish_54 : decode cX8_publish 54 = .ok (.iaload, 1) := by decide +kernel
theorem dX8_publish_55 : decode cX8_publish 55 = .ok (.invokestatic 99, 3) := by decide +kernel
theorem dX8_publish_58 : decode cX8_publish 58 = .ok (.istore_n 3, 1) := by decide +kernel
theorem dX8_publish_59 : decode cX8_publish 59 = .ok (.aload_n 0, 1) := by decide +kernel
theorem dX8_publish_60 : decode cX8_publish 60 = .ok (.getfield 13, 3) := by decide +kernel
theorem dX8_publish_63 : decode cX8_publish 63 = .ok (.iload_n 3, 1) := by decide +kernel
theorem dX8_publish_64 : decode cX8_publish 64 = .ok (.aload_n 0, 1) := by decide +kernel
theorem dX8_publish_65 : decode cX8_publish 65 = .ok (.getfield 13, 3) := by decide +kernel
theorem dX8_publish_68 : decode cX8_publish 68 = .ok (.iload_n 1, 1) := by decide +kernel
theorem dX8_publish_69 : decode cX8_publish 69 = .ok (.iaload, 1) := by decide +kernel
theorem dX8_publish_70 : decode cX8_publish 70 = .ok (.iastore, 1) := by decide +kernel
theorem dX8_publish_71 : decode cX8_publish 71 = .ok (.iconst 0, 1) := by decide +kernel
theorem dX8_publish_72 : decode cX8_publish 72 = .ok (.istore 4, 2) := by decide +kernel
theorem dX8_publish_74 : decode cX8_publish 74 = .ok (.iload 4, 2) := by decide +kernel
theorem dX8_publish_76 : decode cX8_publish 76 = .ok (.aload_n 0, 1) := by decide +kernel
theorem dX8_publish_77 : decode cX8_publish 77 = .ok (.getfield 13, 3) := by decide +kernel
theorem dX8_publish_80 : decode cX8_publish 80 = .ok (.iload_n 3, 1) := by decide +kernel
theorem dX8_publish_81 : decode cX8_publish 81 = .ok (.iaload, 1) := by decide +kernel
theorem dX8_publish_82 : decode cX8_publish 82 = .ok (.if_icmp .ge 96, 3) := by decide +kernel
theorem dX8_publish_85 : decode cX8_publish 85 = .ok (.bipush 10, 2) := by decide +kernel
theorem dX8_publish_87 : decode cX8_publish 87 = .ok (.iload_n 1, 1) := by decide +kernel
theorem dX8_publish_88 : decode cX8_publish 88 = .ok (.imul, 1) := by decide +kernel
theorem dX8_publish_89 : decode cX8_publish 89 = .ok (.iload 4, 2) := by decide +kernel
theorem dX8_publish_91 : decode cX8_publish 91 = .ok (.iadd, 1) := by decide +kernel
theorem dX8_publish_92 : decode cX8_publish 92 = .ok (.istore 5, 2) := by decide +kernel
theorem dX8_publish_94 : decode cX8_publish 94 = .ok (.bipush 10, 2) := by decide +kernel
theorem dX8_publish_96 : decode cX8_publish 96 = .ok (.iload_n 3, 1) := by decide +kernel
theorem dX8_publish_97 : decode cX8_publish 97 = .ok (.imul, 1) := by decide +kernel
theorem dX8_publish_98 : decode cX8_publish 98 = .ok (.iload 4, 2) := by decide +kernel
theorem dX8_publish_100 : decode cX8_publish 100 = .ok (.iadd, 1) := by decide +kernel
theorem dX8_publish_101 : decode cX8_publish 101 = .ok (.istore 6, 2) := by decide +kernel
theorem dX8_publish_103 : decode cX8_publish 103 = .ok (.aload_n 0, 1) := by decide +kernel
theorem dX8_publish_104 : decode cX8_publish 104 = .ok (.getfield 16, 3) := by decide +kernel
theorem dX8_publish_107 : decode cX8_publish 107 = .ok (.iload 6, 2) := by decide +kernel
theorem dX8_publish_109 : decode cX8_publish 109 = .ok (.aload_n 0, 1) := by decide +kernel
theorem dX8_publish_110 : decode cX8_publish 110 = .ok (.getfield 16, 3) := by decide +kernel
theorem dX8_publish_113 : decode cX8_publish 113 = .ok (.iload 5, 2) := by decide +kernel
theorem dX8_publish_115 : decode cX8_publish 115 = .ok (.iaload, 1) := by decide +kernel
theorem dX8_publish_116 : decode cX8_publish 116 = .ok (.iastore, 1) := by decide +kernel
theorem dX8_publish_117 : decode cX8_publish 117 = .ok (.aload_n 0, 1) := by decide +kernel
theorem dX8_publish_118 : decode cX8_publish 118 = .ok (.getfield 19, 3) := by decide +kernel
theorem dX8_publish_121 : decode cX8_publish 121 = .ok (.iload 6, 2) := by decide +kernel
theorem dX8_publish_123 : decode cX8_publish 123 = .ok (.aload_n 0, 1) := by decide +kernel
theorem dX8_publish_124 : decode cX8_publish 124 = .ok (.getfield 19, 3) := by decide +kernel
theorem dX8_publish_127 : decode cX8_publish 127 = .ok (.iload 5, 2) := by decide +kernel
theorem dX8_publish_129 : decode cX8_publish 129 = .ok (.iaload, 1) := by decide +kernel
theorem dX8_publish_130 : decode cX8_publish 130 = .ok (.iastore, 1) := by decide +kernel
theorem dX8_publish_131 : decode cX8_publish 131 = .ok (.iconst 0, 1) := by decide +kernel
theorem dX8_publish_132 : decode cX8_publish 132 = .ok (.istore 7, 2) := by decide +kernel
theorem dX8_publish_134 : decode cX8_publish 134 = .ok (.iload 7, 2) := by decide +kernel
theorem dX8_publish_136 : decode cX8_publish 136 = .ok (.aload_n 0, 1) := by decide +kernel
theorem dX8_publish_137 : decode cX8_publish 137 = .ok (.getfield 19, 3) := by decide +kernel
theorem dX8_publish_140 : decode cX8_publish 140 = .ok (.iload 6, 2) := by decide +kernel
theorem dX8_publish_142 : decode cX8_publish 142 = .ok (.iaload, 1) := by decide +kernel
theorem dX8_publish_143 : decode cX8_publish 143 = .ok (.if_icmp .ge 29, 3) := by decide +kernel
theorem dX8_publish_146 : decode cX8_publish 146 = .ok (.aload_n 0, 1) := by decide +kernel
theorem dX8_publish_147 : decode cX8_publish 147 = .ok (.bipush 12, 2) := by decide +kernel
theorem dX8_publish_149 : decode cX8_publish 149 = .ok (.iload 5, 2) := by decide +kernel
theorem dX8_publish_151 : decode cX8_publish 151 = .ok (.imul, 1) := by decide +kernel
theorem dX8_publish_152 : decode cX8_publish 152 = .ok (.iload 7, 2) := by decide +kernel
theorem dX8_publish_154 : decode cX8_publish 154 = .ok (.iadd, 1) := by decide +kernel
theorem dX8_publish_155 : decode cX8_publish 155 = .ok (.bipush 12, 2) := by decide +kernel
theorem dX8_publish_157 : decode cX8_publish 157 = .ok (.iload 6, 2) := by decide +kernel
theorem dX8_publish_159 : decode cX8_publish 159 = .ok (.imul, 1) := by decide +kernel
theorem dX8_publish_160 : decode cX8_publish 160 = .ok (.iload 7, 2) := by decide +kernel
theorem dX8_publish_162 : decode cX8_publish 162 = .ok (.iadd, 1) := by decide +kernel
theorem dX8_publish_163 : decode cX8_publish 163 = .ok (.invokevirtual 125, 3) := by decide +kernel
theorem dX8_publish_166 : decode cX8_publish 166 = .ok (.iinc 7 1, 3) := by decide +kernel
theorem dX8_publish_169 : decode cX8_publish 169 = .ok (.goto (-35), 3) := by decide +kernel
theorem dX8_publish_172 : decode cX8_publish 172 = .ok (.iinc 4 1, 3) := by decide +kernel
theorem dX8_publish_175 : decode cX8_publish 175 = .ok (.goto (-101), 3) := by decide +kernel
theorem dX8_publish_178 : decode cX8_publish 178 = .ok (.aload_n 0, 1) := by decide +kernel
theorem dX8_publish_179 : decode cX8_publish 179 = .ok (.getfield 7, 3) := by decide +kernel
theorem dX8_publish_182 : decode cX8_publish 182 = .ok (.iload_n 1, 1) := by decide +kernel
theorem dX8_publish_183 : decode cX8_publish 183 = .ok (.dup2, 1) := by decide +kernel
theorem dX8_publish_184 : decode cX8_publish 184 = .ok (.iaload, 1) := by decide +kernel
theorem dX8_publish_185 : decode cX8_publish 185 = .ok (.iconst 1, 1) := by decide +kernel
theorem dX8_publish_186 : decode cX8_publish 186 = .ok (.iadd, 1) := by decide +kernel
theorem dX8_publish_187 : decode cX8_publish 187 = .ok (.iastore, 1) := by decide +kernel
theorem dX8_publish_188 : decode cX8_publish 188 = .ok (.aload_n 0, 1) := by decide +kernel
theorem dX8_publish_189 : decode cX8_publish 189 = .ok (.getfield 7, 3) := by decide +kernel
theorem dX8_publish_192 : decode cX8_publish 192 = .ok (.iload_n 1, 1) := by decide +kernel
theorem dX8_publish_193 : decode cX8_publish 193 = .ok (.iaload, 1) := by decide +kernel
theorem dX8_publish_194 : decode cX8_publish 194 = .ok (.iconst 1, 1) := by decide +kernel
theorem dX8_publish_195 : decode cX8_publish 195 = .ok (.isub, 1) := by decide +kernel
theorem dX8_publish_196 : decode cX8_publish 196 = .ok (.ireturn, 1) := by decide +kernel
theorem dX8_poses_0 : decode cX8_poses 0 = .ok (.aload_n 0, 1) := by decide +kernel
theorem dX8_poses_1 : decode cX8_poses 1 = .ok (.iload_n 1, 1) := by decide +kernel
theorem dX8_poses_2 : decode cX8_poses 2 = .ok (.iload_n 2, 1) := by decide +kernel
theorem dX8_poses_3 : decode cX8_poses 3 = .ok (.iload_n 3, 1) := by decide +kernel
theorem dX8_poses_4 : decode cX8_poses 4 = .ok (.invokevirtual 115, 3) := by decide +kernel
theorem dX8_poses_7 : decode cX8_poses 7 = .ok (.istore 5, 2) := by decide +kernel
theorem dX8_poses_9 : decode cX8_poses 9 = .ok (.aload_n 0, 1) := by decide +kernel
theorem dX8_poses_10 : decode cX8_poses 10 = .ok (.iload 5, 2) := by decide +kernel
theorem dX8_poses_12 : decode cX8_poses 12 = .ok (.ifCond .ne 7, 3) := by decide +kernel
theorem dX8_poses_15 : decode cX8_poses 15 = .ok (.iconst 1, 1) := by decide +kernel
theorem dX8_poses_16 : decode cX8_poses 16 = .ok (.goto 19, 3) := by decide +kernel
theorem dX8_poses_19 : decode cX8_poses 19 = .ok (.iload 4, 2) := by decide +kernel
theorem dX8_poses_21 : decode cX8_poses 21 = .ok (.iconst 0, 1) := by decide +kernel
theorem dX8_poses_22 : decode cX8_poses 22 = .ok (.bipush 99, 2) := by decide +kernel
theorem dX8_poses_24 : decode cX8_poses 24 = .ok (.invokestatic 81, 3) := by decide +kernel
theorem dX8_poses_27 : decode cX8_poses 27 = .ok (.ifCond .ne 7, 3) := by decide +kernel
theorem dX8_poses_30 : decode cX8_poses 30 = .ok (.iconst 2, 1) := by decide +kernel
theorem dX8_poses_31 : decode cX8_poses 31 = .ok (.goto 4, 3) := by decide +kernel
theorem dX8_poses_34 : decode cX8_poses 34 = .ok (.iconst 0, 1) := by decide +kernel
theorem dX8_poses_35 : decode cX8_poses 35 = .ok (.invokevirtual 112, 3) := by decide +kernel
theorem dX8_poses_38 : decode cX8_poses 38 = .ok (.ifCond .eq 18, 3) := by decide +kernel
theorem dX8_poses_41 : decode cX8_poses 41 = .ok (.aload_n 0, 1) := by decide +kernel
theorem dX8_poses_42 : decode cX8_poses 42 = .ok (.iload_n 1, 1) := by decide +kernel
theorem dX8_poses_43 : decode cX8_poses 43 = .ok (.iload_n 2, 1) := by decide +kernel
theorem dX8_poses_44 : decode cX8_poses 44 = .ok (.invokestatic 99, 3) := by decide +kernel
theorem dX8_poses_47 : decode cX8_poses 47 = .ok (.iload_n 3, 1) := by decide +kernel
theorem dX8_poses_48 : decode cX8_poses 48 = .ok (.iload 4, 2) := by decide +kernel
theorem dX8_poses_50 : decode cX8_poses 50 = .ok (.invokevirtual 129, 3) := by decide +kernel
theorem dX8_poses_53 : decode cX8_poses 53 = .ok (.goto 4, 3) := by decide +kernel
theorem dX8_poses_56 : decode cX8_poses 56 = .ok (.iconst 0, 1) := by decide +kernel
theorem dX8_poses_57 : decode cX8_poses 57 = .ok (.ireturn, 1) := by decide +kernel
theorem dX8_pose_0 : decode cX8_pose 0 = .ok (.aload_n 0, 1) := by decide +kernel
theorem dX8_pose_1 : decode cX8_pose 1 = .ok (.iload_n 1, 1) := by decide +kernel
theorem dX8_pose_2 : decode cX8_pose 2 = .ok (.iload_n 2, 1) := by decide +kernel
theorem dX8_pose_3 : decode cX8_pose 3 = .ok (.iload_n 3, 1) := by decide +kernel
theorem dX8_pose_4 : decode cX8_pose 4 = .ok (.iload 4, 2) := by decide +kernel
theorem dX8_pose_6 : decode cX8_pose 6 = .ok (.invokevirtual 133, 3) := by decide +kernel
theorem dX8_pose_9 : decode cX8_pose 9 = .ok (.ireturn, 1) := by decide +kernel
theorem dX8_poseAnew_0 : decode cX8_poseAnew 0 = .ok (.aload_n 0, 1) := by decide +kernel
theorem dX8_poseAnew_1 : decode cX8_poseAnew 1 = .ok (.iload_n 1, 1) := by decide +kernel
theorem dX8_poseAnew_2 : decode cX8_poseAnew 2 = .ok (.iload_n 2, 1) := by decide +kernel
theorem dX8_poseAnew_3 : decode cX8_poseAnew 3 = .ok (.iload_n 3, 1) := by decide +kernel
theorem dX8_poseAnew_4 : decode cX8_poseAnew 4 = .ok (.iload 4, 2) := by decide +kernel
theorem dX8_poseAnew_6 : decode cX8_poseAnew 6 = .ok (.invokevirtual 133, 3) := by decide +kernel
theorem dX8_poseAnew_9 : decode cX8_poseAnew 9 = .ok (.ireturn, 1) := by decide +kernel
theorem dX8_castsOf_0 : decode cX8_castsOf 0 = .ok (.iconst 0, 1) := by decide +kernel
theorem dX8_castsOf_1 : decode cX8_castsOf 1 = .ok (.istore_n 2, 1) := by decide +kernel
theorem dX8_castsOf_2 : decode cX8_castsOf 2 = .ok (.iconst 0, 1) := by decide +kernel
theorem dX8_castsOf_3 : decode cX8_castsOf 3 = .ok (.istore_n 3, 1) := by decide +kernel
theorem dX8_castsOf_4 : decode cX8_castsOf 4 = .ok (.iload_n 3, 1) := by decide +kernel
theorem dX8_castsOf_5 : decode cX8_castsOf 5 = .ok (.aload_n 0, 1) := by decide +kernel
theorem dX8_castsOf_6 : decode cX8_castsOf 6 = .ok (.getfield 85, 3) := by decide +kernel
theorem dX8_castsOf_9 : decode cX8_castsOf 9 = .ok (.if_icmp .ge 31, 3) := by decide +kernel
theorem dX8_castsOf_12 : decode cX8_castsOf 12 = .ok (.iload_n 2, 1) := by decide +kernel
theorem dX8_castsOf_13 : decode cX8_castsOf 13 = .ok (.aload_n 0, 1) := by decide +kernel
theorem dX8_castsOf_14 : decode cX8_castsOf 14 = .ok (.getfield 34, 3) := by decide +kernel
theorem dX8_castsOf_17 : decode cX8_castsOf 17 = .ok (.bipush 8, 2) := by decide +kernel
theorem dX8_castsOf_19 : decode cX8_castsOf 19 = .ok (.iload_n 3, 1) := by decide +kernel
theorem dX8_castsOf_20 : decode cX8_castsOf 20 = .ok (.imul, 1) := by decide +kernel
theorem dX8_castsOf_21 : decode cX8_castsOf 21 = .ok (.iload_n 1, 1) := by decide +kernel
theorem dX8_castsOf_22 : decode cX8_castsOf 22 = .ok (.iadd, 1) := by decide +kernel
theorem dX8_castsOf_23 : decode cX8_castsOf 23 = .ok (.baload, 1) := by decide +kernel
theorem dX8_castsOf_24 : decode cX8_castsOf 24 = .ok (.ifCond .eq 7, 3) := by decide +kernel
theorem dX8_castsOf_27 : decode cX8_castsOf 27 = .ok (.iconst 1, 1) := by decide +kernel
theorem dX8_castsOf_28 : decode cX8_castsOf 28 = .ok (.goto 4, 3) := by decide +kernel
theorem dX8_castsOf_31 : decode cX8_castsOf 31 = .ok (.iconst 0, 1) := by decide +kernel
theorem dX8_castsOf_32 : decode cX8_castsOf 32 = .ok (.iadd, 1) := by decide +kernel
theorem dX8_castsOf_33 : decode cX8_castsOf 33 = .ok (.istore_n 2, 1) := by decide +kernel
theorem dX8_castsOf_34 : decode cX8_castsOf 34 = .ok (.iinc 3 1, 3) := by decide +kernel
theorem dX8_castsOf_37 : decode cX8_castsOf 37 = .ok (.goto (-33), 3) := by decide +kernel
theorem dX8_castsOf_40 : decode cX8_castsOf 40 = .ok (.iload_n 2, 1) := by decide +kernel
theorem dX8_castsOf_41 : decode cX8_castsOf 41 = .ok (.ireturn, 1) := by decide +kernel
theorem dX8_ofAsset_0 : decode cX8_ofAsset 0 = .ok (.aload_n 0, 1) := by decide +kernel
theorem dX8_ofAsset_1 : decode cX8_ofAsset 1 = .ok (.aload_n 0, 1) := by decide +kernel
theorem dX8_ofAsset_2 : decode cX8_ofAsset 2 = .ok (.iload_n 1, 1) := by decide +kernel
theorem dX8_ofAsset_3 : decode cX8_ofAsset 3 = .ok (.invokevirtual 92, 3) := by decide +kernel
theorem dX8_ofAsset_6 : decode cX8_ofAsset 6 = .ok (.ifCond .eq 16, 3) := by decide +kernel
theorem dX8_ofAsset_9 : decode cX8_ofAsset 9 = .ok (.iload_n 2, 1) := by decide +kernel
theorem dX8_ofAsset_10 : decode cX8_ofAsset 10 = .ok (.iconst 0, 1) := by decide +kernel
theorem dX8_ofAsset_11 : decode cX8_ofAsset 11 = .ok (.iconst 2, 1) := by decide +kernel
theorem dX8_ofAsset_12 : decode cX8_ofAsset 12 = .ok (.invokestatic 81, 3) := by decide +kernel
theorem dX8_ofAsset_15 : decode cX8_ofAsset 15 = .ok (.ifCond .eq 7, 3) := by decide +kernel
theorem dX8_ofAsset_18 : decode cX8_ofAsset 18 = .ok (.iconst 0, 1) := by decide +kernel
theorem dX8_ofAsset_19 : decode cX8_ofAsset 19 = .ok (.goto 4, 3) := by decide +kernel
theorem dX8_ofAsset_22 : decode cX8_ofAsset 22 = .ok (.iconst 1, 1) := by decide +kernel
theorem dX8_ofAsset_23 : decode cX8_ofAsset 23 = .ok (.invokevirtual 112, 3) := by decide +kernel
theorem dX8_ofAsset_26 : decode cX8_ofAsset 26 = .ok (.ifCond .ne 5, 3) := by decide +kernel
theorem dX8_ofAsset_29 : decode cX8_ofAsset 29 = .ok (.iconst 0, 1) := by decide +kernel
theorem dX8_ofAsset_30 : decode cX8_ofAsset 30 = .ok (.ireturn, 1) := by decide +kernel
theorem dX8_ofAsset_31 : decode cX8_ofAsset 31 = .ok (.iload_n 2, 1) := by decide +kernel
theorem dX8_ofAsset_32 : decode cX8_ofAsset 32 = .ok (.ifCond .ne 12, 3) := by decide +kernel
theorem dX8_ofAsset_35 : decode cX8_ofAsset 35 = .ok (.aload_n 0, 1) := by decide +kernel
theorem dX8_ofAsset_36 : decode cX8_ofAsset 36 = .ok (.getfield 13, 3) := by decide +kernel
theorem dX8_ofAsset_39 : decode cX8_ofAsset 39 = .ok (.iload_n 1, 1) := by decide +kernel
theorem dX8_ofAsset_40 : decode cX8_ofAsset 40 = .ok (.iaload, 1) := by decide +kernel
theorem dX8_ofAsset_41 : decode cX8_ofAsset 41 = .ok (.goto 22, 3) := by decide +kernel
theorem dX8_ofAsset_44 : decode cX8_ofAsset 44 = .ok (.iload_n 2, 1) := by decide +kernel
theorem dX8_ofAsset_45 : decode cX8_ofAsset 45 = .ok (.iconst 1, 1) := by decide +kernel
theorem dX8_ofAsset_46 : decode cX8_ofAsset 46 = .ok (.if_icmp .ne 12, 3) := by decide +kernel
theorem dX8_ofAsset_49 : decode cX8_ofAsset 49 = .ok (.aload_n 0, 1) := by decide +kernel
theorem dX8_ofAsset_50 : decode cX8_ofAsset 50 = .ok (.getfield 7, 3) := by decide +kernel
theorem dX8_ofAsset_53 : decode cX8_ofAsset 53 = .ok (.iload_n 1, 1) := by decide +kernel
theorem dX8_ofAsset_54 : decode cX8_ofAsset 54 = .ok (.iaload, 1) := by decide +kernel
theorem dX8_ofAsset_55 : decode cX8_ofAsset 55 = .ok (.goto 8, 3) := by decide +kernel
theorem dX8_ofAsset_58 : decode cX8_ofAsset 58 = .ok (.aload_n 0, 1) := by decide +kernel
theorem dX8_ofAsset_59 : decode cX8_ofAsset 59 = .ok (.iload_n 1, 1) := by decide +kernel
theorem dX8_ofAsset_60 : decode cX8_ofAsset 60 = .ok (.invokevirtual 137, 3) := by decide +kernel
theorem dX8_ofAsset_63 : decode cX8_ofAsset 63 = .ok (.ireturn, 1) := by decide +kernel
theorem dX8_scene_0 : decode cX8_scene 0 = .ok (.aload_n 0, 1) := by decide +kernel
theorem dX8_scene_1 : decode cX8_scene 1 = .ok (.iload_n 1, 1) := by decide +kernel
theorem dX8_scene_2 : decode cX8_scene 2 = .ok (.iconst 1, 1) := by decide +kernel
theorem dX8_scene_3 : decode cX8_scene 3 = .ok (.bipush 40, 2) := by decide +kernel
theorem dX8_scene_5 : decode cX8_scene 5 = .ok (.invokestatic 81, 3) := by decide +kernel
theorem dX8_scene_8 : decode cX8_scene 8 = .ok (.ifCond .ne 7, 3) := by decide +kernel
theorem dX8_scene_11 : decode cX8_scene 11 = .ok (.iconst 1, 1) := by decide +kernel
theorem dX8_scene_12 : decode cX8_scene 12 = .ok (.goto 17, 3) := by decide +kernel
theorem dX8_scene_15 : decode cX8_scene 15 = .ok (.aload_n 0, 1) := by decide +kernel
theorem dX8_scene_16 : decode cX8_scene 16 = .ok (.getfield 85, 3) := by decide +kernel
theorem dX8_scene_19 : decode cX8_scene 19 = .ok (.bipush 8, 2) := by decide +kernel
theorem dX8_scene_21 : decode cX8_scene 21 = .ok (.if_icmp .ne 7, 3) := by decide +kernel
theorem dX8_scene_24 : decode cX8_scene 24 = .ok (.iconst 2, 1) := by decide +kernel
theorem dX8_scene_25 : decode cX8_scene 25 = .ok (.goto 4, 3) := by decide +kernel
theorem dX8_scene_28 : decode cX8_scene 28 = .ok (.iconst 0, 1) := by decide +kernel
theorem dX8_scene_29 : decode cX8_scene 29 = .ok (.invokevirtual 112, 3) := by decide +kernel
theorem dX8_scene_32 : decode cX8_scene 32 = .ok (.ifCond .ne 5, 3) := by decide +kernel
theorem dX8_scene_35 : decode cX8_scene 35 = .ok (.iconst 0, 1) := by decide +kernel
theorem dX8_scene_36 : decode cX8_scene 36 = .ok (.ireturn, 1) := by decide +kernel
theorem dX8_scene_37 : decode cX8_scene 37 = .ok (.aload_n 0, 1) := by decide +kernel
theorem dX8_scene_38 : decode cX8_scene 38 = .ok (.getfield 31, 3) := by decide +kernel
theorem dX8_scene_41 : decode cX8_scene 41 = .ok (.aload_n 0, 1) := by decide +kernel
theorem dX8_scene_42 : decode cX8_scene 42 = .ok (.getfield 85, 3) := by decide +kernel
theorem dX8_scene_45 : decode cX8_scene 45 = .ok (.iload_n 1, 1) := by decide +kernel
theorem dX8_scene_46 : decode cX8_scene 46 = .ok (.iastore, 1) := by decide +kernel
theorem dX8_scene_47 : decode cX8_scene 47 = .ok (.iconst 0, 1) := by decide +kernel
theorem dX8_scene_48 : decode cX8_scene 48 = .ok (.istore_n 2, 1) := by decide +kernel
theorem dX8_scene_49 : decode cX8_scene 49 = .ok (.iload_n 2, 1) := by decide +kernel
theorem dX8_scene_50 : decode cX8_scene 50 = .ok (.iload_n 1, 1) := by decide +kernel
theorem dX8_scene_51 : decode cX8_scene 51 = .ok (.if_icmp .ge 24, 3) := by decide +kernel
theorem dX8_scene_54 : decode cX8_scene 54 = .ok (.aload_n 0, 1) := by decide +kernel
theorem dX8_scene_55 : decode cX8_scene 55 = .ok (.getfield 47, 3) := by decide +kernel
theorem dX8_scene_58 : decode cX8_scene 58 = .ok (.bipush 40, 2) := by decide +kernel
theorem dX8_scene_60 : decode cX8_scene 60 = .ok (.aload_n 0, 1) := by decide +kernel
theorem dX8_scene_61 : decode cX8_scene 61 = .ok (.getfield 85, 3) := by decide +kernel
theorem dX8_scene_64 : decode cX8_scene 64 = .ok (.imul, 1) := by decide +kernel
theorem dX8_scene_65 : decode cX8_scene 65 = .ok (.iload_n 2, 1) := by decide +kernel
theorem dX8_scene_66 : decode cX8_scene 66 = .ok (.iadd, 1) := by decide +kernel
theorem dX8_scene_67 : decode cX8_scene 67 = .ok (.iload_n 2, 1) := by decide +kernel
theorem dX8_scene_68 : decode cX8_scene 68 = .ok (.iastore, 1) := by decide +kernel
theorem dX8_scene_69 : decode cX8_scene 69 = .ok (.iinc 2 1, 3) := by decide +kernel
theorem dX8_scene_72 : decode cX8_scene 72 = .ok (.goto (-23), 3) := by decide +kernel
theorem dX8_scene_75 : decode cX8_scene 75 = .ok (.aload_n 0, 1) := by decide +kernel
theorem dX8_scene_76 : decode cX8_scene 76 = .ok (.dup, 1) := by decide +kernel
theorem dX8_scene_77 : decode cX8_scene 77 = .ok (.getfield 85, 3) := by decide +kernel
theorem dX8_scene_80 : decode cX8_scene 80 = .ok (.iconst 1, 1) := by decide +kernel
theorem dX8_scene_81 : decode cX8_scene 81 = .ok (.iadd, 1) := by decide +kernel
theorem dX8_scene_82 : decode cX8_scene 82 = .ok (.putfield 85, 3) := by decide +kernel
theorem dX8_scene_85 : decode cX8_scene 85 = .ok (.aload_n 0, 1) := by decide +kernel
theorem dX8_scene_86 : decode cX8_scene 86 = .ok (.getfield 85, 3) := by decide +kernel
theorem dX8_scene_89 : decode cX8_scene 89 = .ok (.iconst 1, 1) := by decide +kernel
theorem dX8_scene_90 : decode cX8_scene 90 = .ok (.isub, 1) := by decide +kernel
theorem dX8_scene_91 : decode cX8_scene 91 = .ok (.ireturn, 1) := by decide +kernel
theorem dX8_cast_0 : decode cX8_cast 0 = .ok (.aload_n 0, 1) := by decide +kernel
theorem dX8_cast_1 : decode cX8_cast 1 = .ok (.iload_n 1, 1) := by decide +kernel
theorem dX8_cast_2 : decode cX8_cast 2 = .ok (.invokevirtual 88, 3) := by decide +kernel
theorem dX8_cast_5 : decode cX8_cast 5 = .ok (.ifCond .eq 16, 3) := by decide +kernel
theorem dX8_cast_8 : decode cX8_cast 8 = .ok (.aload_n 0, 1) := by decide +kernel
theorem dX8_cast_9 : decode cX8_cast 9 = .ok (.iload_n 2, 1) := by decide +kernel
theorem dX8_cast_10 : decode cX8_cast 10 = .ok (.iload_n 3, 1) := by decide +kernel
theorem dX8_cast_11 : decode cX8_cast 11 = .ok (.invokevirtual 95, 3) := by decide +kernel
theorem dX8_cast_14 : decode cX8_cast 14 = .ok (.ifCond .eq 7, 3) := by decide +kernel
theorem dX8_cast_17 : decode cX8_cast 17 = .ok (.iconst 1, 1) := by decide +kernel
theorem dX8_cast_18 : decode cX8_cast 18 = .ok (.goto 4, 3) := by decide +kernel
theorem dX8_cast_21 : decode cX8_cast 21 = .ok (.iconst 0, 1) := by decide +kernel
theorem dX8_cast_22 : decode cX8_cast 22 = .ok (.istore 6, 2) := by decide +kernel
theorem dX8_cast_24 : decode cX8_cast 24 = .ok (.aload_n 0, 1) := by decide +kernel
theorem dX8_cast_25 : decode cX8_cast 25 = .ok (.iload 6, 2) := by decide +kernel
theorem dX8_cast_27 : decode cX8_cast 27 = .ok (.ifCond .ne 7, 3) := by decide +kernel
theorem dX8_cast_30 : decode cX8_cast 30 = .ok (.iconst 1, 1) := by decide +kernel
theorem dX8_cast_31 : decode cX8_cast 31 = .ok (.goto 31, 3) := by decide +kernel
theorem dX8_cast_34 : decode cX8_cast 34 = .ok (.iload 4, 2) := by decide +kernel
theorem dX8_cast_36 : decode cX8_cast 36 = .ok (.iconst 0, 1) := by decide +kernel
theorem dX8_cast_37 : decode cX8_cast 37 = .ok (.bipush 39, 2) := by decide +kernel
theorem dX8_cast_39 : decode cX8_cast 39 = .ok (.invokestatic 81, 3) := by decide +kernel
theorem dX8_cast_42 : decode cX8_cast 42 = .ok (.ifCond .eq 15, 3) := by decide +kernel
theorem dX8_cast_45 : decode cX8_cast 45 = .ok (.iload 5, 2) := by decide +kernel
theorem dX8_cast_47 : decode cX8_cast 47 = .ok (.iload 4, 2) := by decide +kernel
theorem dX8_cast_49 : decode cX8_cast 49 = .ok (.bipush 39, 2) := by decide +kernel
theorem dX8_cast_51 : decode cX8_cast 51 = .ok (.invokestatic 81, 3) := by decide +kernel
theorem dX8_cast_54 : decode cX8_cast 54 = .ok (.ifCond .ne 7, 3) := by decide +kernel
theorem dX8_cast_57 : decode cX8_cast 57 = .ok (.iconst 2, 1) := by decide +kernel
theorem dX8_cast_58 : decode cX8_cast 58 = .ok (.goto 4, 3) := by decide +kernel
theorem dX8_cast_61 : decode cX8_cast 61 = .ok (.iconst 0, 1) := by decide +kernel
theorem dX8_cast_62 : decode cX8_cast 62 = .ok (.invokevirtual 112, 3) := by decide +kernel
theorem dX8_cast_65 : decode cX8_cast 65 = .ok (.ifCond .ne 5, 3) := by decide +kernel
theorem dX8_cast_68 : decode cX8_cast 68 = .ok (.iconst 0, 1) := by decide +kernel
theorem dX8_cast_69 : decode cX8_cast 69 = .ok (.ireturn, 1) := by decide +kernel
theorem dX8_cast_70 : decode cX8_cast 70 = .ok (.bipush 8, 2) := by decide +kernel
theorem dX8_cast_72 : decode cX8_cast 72 = .ok (.iload_n 1, 1) := by decide +kernel
theorem dX8_cast_73 : decode cX8_cast 73 = .ok (.imul, 1) := by decide +kernel
theorem dX8_cast_74 : decode cX8_cast 74 = .ok (.iload_n 2, 1) := by decide +kernel
theorem dX8_cast_75 : decode cX8_cast 75 = .ok (.iadd, 1) := by decide +kernel
theorem dX8_cast_76 : decode cX8_cast 76 = .ok (.istore 7, 2) := by decide +kernel
theorem dX8_cast_78 : decode cX8_cast 78 = .ok (.aload_n 0, 1) := by decide +kernel
theorem dX8_cast_79 : decode cX8_cast 79 = .ok (.getfield 34, 3) := by decide +kernel
theorem dX8_cast_82 : decode cX8_cast 82 = .ok (.iload 7, 2) := by decide +kernel
theorem dX8_cast_84 : decode cX8_cast 84 = .ok (.iconst 1, 1) := by decide +kernel
theorem dX8_cast_85 : decode cX8_cast 85 = .ok (.bastore, 1) := by decide +kernel
theorem dX8_cast_86 : decode cX8_cast 86 = .ok (.aload_n 0, 1) := by decide +kernel
theorem dX8_cast_87 : decode cX8_cast 87 = .ok (.getfield 38, 3) := by decide +kernel
theorem dX8_cast_90 : decode cX8_cast 90 = .ok (.iload 7, 2) := by decide +kernel
theorem dX8_cast_92 : decode cX8_cast 92 = .ok (.iload_n 3, 1) := by decide +kernel
theorem dX8_cast_93 : decode cX8_cast 93 = .ok (.iastore, 1) := by decide +kernel
theorem dX8_cast_94 : decode cX8_cast 94 = .ok (.aload_n 0, 1) := by decide +kernel
theorem dX8_cast_95 : decode cX8_cast 95 = .ok (.getfield 41, 3) := by decide +kernel
theorem dX8_cast_98 : decode cX8_cast 98 = .ok (.iload 7, 2) := by decide +kernel
theorem dX8_cast_100 : decode cX8_cast 100 = .ok (.iload 4, 2) := by decide +kernel
theorem dX8_cast_102 : decode cX8_cast 102 = .ok (.iastore, 1) := by decide +kernel
theorem dX8_cast_103 : decode cX8_cast 103 = .ok (.aload_n 0, 1) := by decide +kernel
theorem dX8_cast_104 : decode cX8_cast 104 = .ok (.getfield 44, 3) := by decide +kernel
theorem dX8_cast_107 : decode cX8_cast 107 = .ok (.iload 7, 2) := by decide +kernel
theorem dX8_cast_109 : decode cX8_cast 109 = .ok (.iload 5, 2) := by decide +kernel
theorem dX8_cast_111 : decode cX8_cast 111 = .ok (.iastore, 1) := by decide +kernel
theorem dX8_cast_112 : decode cX8_cast 112 = .ok (.iconst 0, 1) := by decide +kernel
theorem dX8_cast_113 : decode cX8_cast 113 = .ok (.istore 8, 2) := by decide +kernel
theorem dX8_cast_115 : decode cX8_cast 115 = .ok (.iconst 0, 1) := by decide +kernel
theorem dX8_cast_116 : decode cX8_cast 116 = .ok (.istore 9, 2) := by decide +kernel
theorem dX8_cast_118 : decode cX8_cast 118 = .ok (.iload 9, 2) := by decide +kernel
theorem dX8_cast_120 : decode cX8_cast 120 = .ok (.aload_n 0, 1) := by decide +kernel
theorem dX8_cast_121 : decode cX8_cast 121 = .ok (.getfield 74, 3) := by decide +kernel
theorem dX8_cast_124 : decode cX8_cast 124 = .ok (.if_icmp .ge 34, 3) := by decide +kernel
theorem dX8_cast_127 : decode cX8_cast 127 = .ok (.iload 8, 2) := by decide +kernel
theorem dX8_cast_129 : decode cX8_cast 129 = .ok (.aload_n 0, 1) := by decide +kernel
theorem dX8_cast_130 : decode cX8_cast 130 = .ok (.getfield 34, 3) := by decide +kernel
theorem dX8_cast_133 : decode cX8_cast 133 = .ok (.bipush 8, 2) := by decide +kernel
theorem dX8_cast_135 : decode cX8_cast 135 = .ok (.iload_n 1, 1) := by decide +kernel
theorem dX8_cast_136 : decode cX8_cast 136 = .ok (.imul, 1) := by decide +kernel
theorem dX8_cast_137 : decode cX8_cast 137 = .ok (.iload 9, 2) := by decide +kernel
theorem dX8_cast_139 : decode cX8_cast 139 = .ok (.iadd, 1) := by decide +kernel
theorem dX8_cast_140 : decode cX8_cast 140 = .ok (.baload, 1) := by decide +kernel
theorem dX8_cast_141 : decode cX8_cast 141 = .ok (.ifCond .eq 7, 3) := by decide +kernel
theorem dX8_cast_144 : decode cX8_cast 144 = .ok (.iconst 1, 1) := by decide +kernel
theorem dX8_cast_145 : decode cX8_cast 145 = .ok (.goto 4, 3) := by decide +kernel
theorem dX8_cast_148 : decode cX8_cast 148 = .ok (.iconst 0, 1) := by decide +kernel
theorem dX8_cast_149 : decode cX8_cast 149 = .ok (.iadd, 1) := by decide +kernel
theorem dX8_cast_150 : decode cX8_cast 150 = .ok (.istore 8, 2) := by decide +kernel
theorem dX8_cast_152 : decode cX8_cast 152 = .ok (.iinc 9 1, 3) := by decide +kernel
theorem dX8_cast_155 : decode cX8_cast 155 = .ok (.goto (-37), 3) := by decide +kernel
theorem dX8_cast_158 : decode cX8_cast 158 = .ok (.iload 8, 2) := by decide +kernel
theorem dX8_cast_160 : decode cX8_cast 160 = .ok (.ireturn, 1) := by decide +kernel
theorem dX8_goesTo_0 : decode cX8_goesTo 0 = .ok (.aload_n 0, 1) := by decide +kernel
theorem dX8_goesTo_1 : decode cX8_goesTo 1 = .ok (.getfield 47, 3) := by decide +kernel
theorem dX8_goesTo_4 : decode cX8_goesTo 4 = .ok (.iload_n 2, 1) := by decide +kernel
theorem dX8_goesTo_5 : decode cX8_goesTo 5 = .ok (.aload_n 0, 1) := by decide +kernel
theorem dX8_goesTo_6 : decode cX8_goesTo 6 = .ok (.getfield 47, 3) := by decide +kernel
theorem dX8_goesTo_9 : decode cX8_goesTo 9 = .ok (.iload_n 1, 1) := by decide +kernel
theorem dX8_goesTo_10 : decode cX8_goesTo 10 = .ok (.iaload, 1) := by decide +kernel
theorem dX8_goesTo_11 : decode cX8_goesTo 11 = .ok (.iastore, 1) := by decide +kernel
theorem dX8_goesTo_12 : decode cX8_goesTo 12 = .ok (.aload_n 0, 1) := by decide +kernel
theorem dX8_goesTo_13 : decode cX8_goesTo 13 = .ok (.getfield 50, 3) := by decide +kernel
theorem dX8_goesTo_16 : decode cX8_goesTo 16 = .ok (.iload_n 2, 1) := by decide +kernel
theorem dX8_goesTo_17 : decode cX8_goesTo 17 = .ok (.aload_n 0, 1) := by decide +kernel
theorem dX8_goesTo_18 : decode cX8_goesTo 18 = .ok (.getfield 50, 3) := by decide +kernel
theorem dX8_goesTo_21 : decode cX8_goesTo 21 = .ok (.iload_n 1, 1) := by decide +kernel
theorem dX8_goesTo_22 : decode cX8_goesTo 22 = .ok (.iaload, 1) := by decide +kernel
theorem dX8_goesTo_23 : decode cX8_goesTo 23 = .ok (.iastore, 1) := by decide +kernel
theorem dX8_goesTo_24 : decode cX8_goesTo 24 = .ok (.iconst 0, 1) := by decide +kernel
theorem dX8_goesTo_25 : decode cX8_goesTo 25 = .ok (.istore_n 3, 1) := by decide +kernel
theorem dX8_goesTo_26 : decode cX8_goesTo 26 = .ok (.iload_n 3, 1) := by decide +kernel
theorem dX8_goesTo_27 : decode cX8_goesTo 27 = .ok (.bipush 8, 2) := by decide +kernel
theorem dX8_goesTo_29 : decode cX8_goesTo 29 = .ok (.if_icmp .ge 53, 3) := by decide +kernel
theorem dX8_goesTo_32 : decode cX8_goesTo 32 = .ok (.aload_n 0, 1) := by decide +kernel
theorem dX8_goesTo_33 : decode cX8_goesTo 33 = .ok (.getfield 53, 3) := by decide +kernel
theorem dX8_goesTo_36 : decode cX8_goesTo 36 = .ok (.bipush 8, 2) := by decide +kernel
theorem dX8_goesTo_38 : decode cX8_goesTo 38 = .ok (.iload_n 2, 1) := by decide +kernel
theorem dX8_goesTo_39 : decode cX8_goesTo 39 = .ok (.imul, 1) := by decide +kernel
theorem dX8_goesTo_40 : decode cX8_goesTo 40 = .ok (.iload_n 3, 1) := by decide +kernel
theorem dX8_goesTo_41 : decode cX8_goesTo 41 = .ok (.iadd, 1) := by decide +kernel
theorem dX8_goesTo_42 : decode cX8_goesTo 42 = .ok (.aload_n 0, 1) := by decide +kernel
theorem dX8_goesTo_43 : decode cX8_goesTo 43 = .ok (.getfield 53, 3) := by decide +kernel
theorem dX8_goesTo_46 : decode cX8_goesTo 46 = .ok (.bipush 8, 2) := by decide +kernel
theorem dX8_goesTo_48 : decode cX8_goesTo 48 = .ok (.iload_n 1, 1) := by decide +kernel
theorem dX8_goesTo_49 : decode cX8_goesTo 49 = .ok (.imul, 1) := by decide +kernel
theorem dX8_goesTo_50 : decode cX8_goesTo 50 = .ok (.iload_n 3, 1) := by decide +kernel
theorem dX8_goesTo_51 : decode cX8_goesTo 51 = .ok (.iadd, 1) := by decide +kernel
theorem dX8_goesTo_52 : decode cX8_goesTo 52 = .ok (.iaload, 1) := by decide +kernel
theorem dX8_goesTo_53 : decode cX8_goesTo 53 = .ok (.iastore, 1) := by decide +kernel
theorem dX8_goesTo_54 : decode cX8_goesTo 54 = .ok (.aload_n 0, 1) := by decide +kernel
theorem dX8_goesTo_55 : decode cX8_goesTo 55 = .ok (.getfield 56, 3) := by decide +kernel
theorem dX8_goesTo_58 : decode cX8_goesTo 58 = .ok (.bipush 8, 2) := by decide +kernel
theorem dX8_goesTo_60 : decode cX8_goesTo 60 = .ok (.iload_n 2, 1) := by decide +kernel
theorem dX8_goesTo_61 : decode cX8_goesTo 61 = .ok (.imul, 1) := by decide +kernel
theorem dX8_goesTo_62 : decode cX8_goesTo 62 = .ok (.iload_n 3, 1) := by decide +kernel
theorem dX8_goesTo_63 : decode cX8_goesTo 63 = .ok (.iadd, 1) := by decide +kernel
theorem dX8_goesTo_64 : decode cX8_goesTo 64 = .ok (.aload_n 0, 1) := by decide +kernel
theorem dX8_goesTo_65 : decode cX8_goesTo 65 = .ok (.getfield 56, 3) := by decide +kernel
theorem dX8_goesTo_68 : decode cX8_goesTo 68 = .ok (.bipush 8, 2) := by decide +kernel
theorem dX8_goesTo_70 : decode cX8_goesTo 70 = .ok (.iload_n 1, 1) := by decide +kernel
theorem dX8_goesTo_71 : decode cX8_goesTo 71 = .ok (.imul, 1) := by decide +kernel
theorem dX8_goesTo_72 : decode cX8_goesTo 72 = .ok (.iload_n 3, 1) := by decide +kernel
theorem dX8_goesTo_73 : decode cX8_goesTo 73 = .ok (.iadd, 1) := by decide +kernel
theorem dX8_goesTo_74 : decode cX8_goesTo 74 = .ok (.iaload, 1) := by decide +kernel
theorem dX8_goesTo_75 : decode cX8_goesTo 75 = .ok (.iastore, 1) := by decide +kernel
theorem dX8_goesTo_76 : decode cX8_goesTo 76 = .ok (.iinc 3 1, 3) := by decide +kernel
theorem dX8_goesTo_79 : decode cX8_goesTo 79 = .ok (.goto (-53), 3) := by decide +kernel
theorem dX8_goesTo_82 : decode cX8_goesTo 82 = .ok (.iconst 0, 1) := by decide +kernel
theorem dX8_goesTo_83 : decode cX8_goesTo 83 = .ok (.istore_n 3, 1) := by decide +kernel
theorem dX8_goesTo_84 : decode cX8_goesTo 84 = .ok (.iload_n 3, 1) := by decide +kernel
theorem dX8_goesTo_85 : decode cX8_goesTo 85 = .ok (.bipush 80, 2) := by decide +kernel
theorem dX8_goesTo_87 : decode cX8_goesTo 87 = .ok (.if_icmp .ge 31, 3) := by decide +kernel
theorem dX8_goesTo_90 : decode cX8_goesTo 90 = .ok (.aload_n 0, 1) := by decide +kernel
theorem dX8_goesTo_91 : decode cX8_goesTo 91 = .ok (.getfield 59, 3) := by decide +kernel
theorem dX8_goesTo_94 : decode cX8_goesTo 94 = .ok (.bipush 80, 2) := by decide +kernel
theorem dX8_goesTo_96 : decode cX8_goesTo 96 = .ok (.iload_n 2, 1) := by decide +kernel
theorem dX8_goesTo_97 : decode cX8_goesTo 97 = .ok (.imul, 1) := by decide +kernel
theorem dX8_goesTo_98 : decode cX8_goesTo 98 = .ok (.iload_n 3, 1) := by decide +kernel
theorem dX8_goesTo_99 : decode cX8_goesTo 99 = .ok (.iadd, 1) := by decide +kernel
theorem dX8_goesTo_100 : decode cX8_goesTo 100 = .ok (.aload_n 0, 1) := by decide +kernel
theorem dX8_goesTo_101 : decode cX8_goesTo 101 = .ok (.getfield 59, 3) := by decide +kernel
theorem dX8_goesTo_104 : decode cX8_goesTo 104 = .ok (.bipush 80, 2) := by decide +kernel
theorem dX8_goesTo_106 : decode cX8_goesTo 106 = .ok (.iload_n 1, 1) := by decide +kernel
theorem dX8_goesTo_107 : decode cX8_goesTo 107 = .ok (.imul, 1) := by decide +kernel
theorem dX8_goesTo_108 : decode cX8_goesTo 108 = .ok (.iload_n 3, 1) := by decide +kernel
theorem dX8_goesTo_109 : decode cX8_goesTo 109 = .ok (.iadd, 1) := by decide +kernel
theorem dX8_goesTo_110 : decode cX8_goesTo 110 = .ok (.iaload, 1) := by decide +kernel
theorem dX8_goesTo_111 : decode cX8_goesTo 111 = .ok (.iastore, 1) := by decide +kernel
theorem dX8_goesTo_112 : decode cX8_goesTo 112 = .ok (.iinc 3 1, 3) := by decide +kernel
theorem dX8_goesTo_115 : decode cX8_goesTo 115 = .ok (.goto (-31), 3) := by decide +kernel
theorem dX8_goesTo_118 : decode cX8_goesTo 118 = .ok (.return_, 1) := by decide +kernel
theorem dX8_carries_0 : decode cX8_carries 0 = .ok (.aload_n 0, 1) := by decide +kernel
theorem dX8_carries_1 : decode cX8_carries 1 = .ok (.getfield 65, 3) := by decide +kernel
theorem dX8_carries_4 : decode cX8_carries 4 = .ok (.iload_n 1, 1) := by decide +kernel
theorem dX8_carries_5 : decode cX8_carries 5 = .ok (.iaload, 1) := by decide +kernel
theorem dX8_carries_6 : decode cX8_carries 6 = .ok (.istore 5, 2) := by decide +kernel
theorem dX8_carries_8 : decode cX8_carries 8 = .ok (.iload 5, 2) := by decide +kernel
theorem dX8_carries_10 : decode cX8_carries 10 = .ok (.iload_n 2, 1) := by decide +kernel
theorem dX8_carries_11 : decode cX8_carries 11 = .ok (.iload_n 3, 1) := by decide +kernel
theorem dX8_carries_12 : decode cX8_carries 12 = .ok (.iadd, 1) := by decide +kernel
theorem dX8_carries_13 : decode cX8_carries 13 = .ok (.if_icmp .lt 16, 3) := by decide +kernel
theorem dX8_carries_16 : decode cX8_carries 16 = .ok (.aload_n 0, 1) := by decide +kernel
theorem dX8_carries_17 : decode cX8_carries 17 = .ok (.getfield 65, 3) := by decide +kernel
theorem dX8_carries_20 : decode cX8_carries 20 = .ok (.iload_n 1, 1) := by decide +kernel
theorem dX8_carries_21 : decode cX8_carries 21 = .ok (.iload 5, 2) := by decide +kernel
theorem dX8_carries_23 : decode cX8_carries 23 = .ok (.iload_n 3, 1) := by decide +kernel
theorem dX8_carries_24 : decode cX8_carries 24 = .ok (.isub, 1) := by decide +kernel
theorem dX8_carries_25 : decode cX8_carries 25 = .ok (.iastore, 1) := by decide +kernel
theorem dX8_carries_26 : decode cX8_carries 26 = .ok (.goto 39, 3) := by decide +kernel
theorem dX8_carries_29 : decode cX8_carries 29 = .ok (.iload 5, 2) := by decide +kernel
theorem dX8_carries_31 : decode cX8_carries 31 = .ok (.iload_n 2, 1) := by decide +kernel
theorem dX8_carries_32 : decode cX8_carries 32 = .ok (.if_icmp .lt 33, 3) := by decide +kernel
theorem dX8_carries_35 : decode cX8_carries 35 = .ok (.aload_n 0, 1) := by decide +kernel
theorem dX8_carries_36 : decode cX8_carries 36 = .ok (.getfield 65, 3) := by decide +kernel
theorem dX8_carries_39 : decode cX8_carries 39 = .ok (.iload_n 1, 1) := by decide +kernel
theorem dX8_carries_40 : decode cX8_carries 40 = .ok (.iload_n 2, 1) := by decide +kernel
theorem dX8_carries_41 : decode cX8_carries 41 = .ok (.iload 4, 2) := by decide +kernel
theorem dX8_carries_43 : decode cX8_carries 43 = .ok (.if_icmp .ge 7, 3) := by decide +kernel
theorem dX8_carries_46 : decode cX8_carries 46 = .ok (.iload_n 2, 1) := by decide +kernel
theorem dX8_carries_47 : decode cX8_carries 47 = .ok (.goto 7, 3) := by decide +kernel
theorem dX8_carries_50 : decode cX8_carries 50 = .ok (.iload 4, 2) := by decide +kernel
theorem dX8_carries_52 : decode cX8_carries 52 = .ok (.iconst 1, 1) := by decide +kernel
theorem dX8_carries_53 : decode cX8_carries 53 = .ok (.isub, 1) := by decide +kernel
theorem dX8_carries_54 : decode cX8_carries 54 = .ok (.iastore, 1) := by decide +kernel
theorem dX8_carries_55 : decode cX8_carries 55 = .ok (.aload_n 0, 1) := by decide +kernel
theorem dX8_carries_56 : decode cX8_carries 56 = .ok (.getfield 71, 3) := by decide +kernel
theorem dX8_carries_59 : decode cX8_carries 59 = .ok (.iload_n 1, 1) := by decide +kernel
theorem dX8_carries_60 : decode cX8_carries 60 = .ok (.dup2, 1) := by decide +kernel
theorem dX8_carries_61 : decode cX8_carries 61 = .ok (.iaload, 1) := by decide +kernel
theorem dX8_carries_62 : decode cX8_carries 62 = .ok (.iconst 1, 1) := by decide +kernel
theorem dX8_carries_63 : decode cX8_carries 63 = .ok (.iadd, 1) := by decide +kernel
theorem dX8_carries_64 : decode cX8_carries 64 = .ok (.iastore, 1) := by decide +kernel
theorem dX8_carries_65 : decode cX8_carries 65 = .ok (.return_, 1) := by decide +kernel
theorem dX8_cut_0 : decode cX8_cut 0 = .ok (.aload_n 0, 1) := by decide +kernel
theorem dX8_cut_1 : decode cX8_cut 1 = .ok (.iload_n 1, 1) := by decide +kernel
theorem dX8_cut_2 : decode cX8_cut 2 = .ok (.iload_n 2, 1) := by decide +kernel
theorem dX8_cut_3 : decode cX8_cut 3 = .ok (.invokevirtual 141, 3) := by decide +kernel
theorem dX8_cut_6 : decode cX8_cut 6 = .ok (.istore 4, 2) := by decide +kernel
theorem dX8_cut_8 : decode cX8_cut 8 = .ok (.iload 4, 2) := by decide +kernel
theorem dX8_cut_10 : decode cX8_cut 10 = .ok (.ifCond .eq 29, 3) := by decide +kernel
theorem dX8_cut_13 : decode cX8_cut 13 = .ok (.iload_n 3, 1) := by decide +kernel
theorem dX8_cut_14 : decode cX8_cut 14 = .ok (.aload_n 0, 1) := by decide +kernel
theorem dX8_cut_15 : decode cX8_cut 15 = .ok (.getfield 31, 3) := by decide +kernel
theorem dX8_cut_18 : decode cX8_cut 18 = .ok (.iload_n 1, 1) := by decide +kernel
theorem dX8_cut_19 : decode cX8_cut 19 = .ok (.iaload, 1) := by decide +kernel
theorem dX8_cut_20 : decode cX8_cut 20 = .ok (.iload_n 2, 1) := by decide +kernel
theorem dX8_cut_21 : decode cX8_cut 21 = .ok (.isub, 1) := by decide +kernel
theorem dX8_cut_22 : decode cX8_cut 22 = .ok (.if_icmp .gt 17, 3) := by decide +kernel
theorem dX8_cut_25 : decode cX8_cut 25 = .ok (.iload_n 3, 1) := by decide +kernel
theorem dX8_cut_26 : decode cX8_cut 26 = .ok (.aload_n 0, 1) := by decide +kernel
theorem dX8_cut_27 : decode cX8_cut 27 = .ok (.getfield 31, 3) := by decide +kernel
theorem dX8_cut_30 : decode cX8_cut 30 = .ok (.iload_n 1, 1) := by decide +kernel
theorem dX8_cut_31 : decode cX8_cut 31 = .ok (.iaload, 1) := by decide +kernel
theorem dX8_cut_32 : decode cX8_cut 32 = .ok (.if_icmp .ge 7, 3) := by decide +kernel
theorem dX8_cut_35 : decode cX8_cut 35 = .ok (.iconst 1, 1) := by decide +kernel
theorem dX8_cut_36 : decode cX8_cut 36 = .ok (.goto 4, 3) := by decide +kernel
theorem dX8_cut_39 : decode cX8_cut 39 = .ok (.iconst 0, 1) := by decide +kernel
theorem dX8_cut_40 : decode cX8_cut 40 = .ok (.istore 5, 2) := by decide +kernel
theorem dX8_cut_42 : decode cX8_cut 42 = .ok (.aload_n 0, 1) := by decide +kernel
theorem dX8_cut_43 : decode cX8_cut 43 = .ok (.iload 4, 2) := by decide +kernel
theorem dX8_cut_45 : decode cX8_cut 45 = .ok (.ifCond .ne 7, 3) := by decide +kernel
theorem dX8_cut_48 : decode cX8_cut 48 = .ok (.iconst 1, 1) := by decide +kernel
theorem dX8_cut_49 : decode cX8_cut 49 = .ok (.goto 22, 3) := by decide +kernel
theorem dX8_cut_52 : decode cX8_cut 52 = .ok (.iload_n 3, 1) := by decide +kernel
theorem dX8_cut_53 : decode cX8_cut 53 = .ok (.iconst 1, 1) := by decide +kernel
theorem dX8_cut_54 : decode cX8_cut 54 = .ok (.if_icmp .ge 7, 3) := by decide +kernel
theorem dX8_cut_57 : decode cX8_cut 57 = .ok (.iconst 2, 1) := by decide +kernel
theorem dX8_cut_58 : decode cX8_cut 58 = .ok (.goto 13, 3) := by decide +kernel
theorem dX8_cut_61 : decode cX8_cut 61 = .ok (.iload 5, 2) := by decide +kernel
theorem dX8_cut_63 : decode cX8_cut 63 = .ok (.ifCond .ne 7, 3) := by decide +kernel
theorem dX8_cut_66 : decode cX8_cut 66 = .ok (.iconst 3, 1) := by decide +kernel
theorem dX8_cut_67 : decode cX8_cut 67 = .ok (.goto 4, 3) := by decide +kernel
theorem dX8_cut_70 : decode cX8_cut 70 = .ok (.iconst 0, 1) := by decide +kernel
theorem dX8_cut_71 : decode cX8_cut 71 = .ok (.invokevirtual 112, 3) := by decide +kernel
theorem dX8_cut_74 : decode cX8_cut 74 = .ok (.ifCond .ne 5, 3) := by decide +kernel
theorem dX8_cut_77 : decode cX8_cut 77 = .ok (.iconst 0, 1) := by decide +kernel
theorem dX8_cut_78 : decode cX8_cut 78 = .ok (.ireturn, 1) := by decide +kernel
theorem dX8_cut_79 : decode cX8_cut 79 = .ok (.aload_n 0, 1) := by decide +kernel
theorem dX8_cut_80 : decode cX8_cut 80 = .ok (.getfield 31, 3) := by decide +kernel
theorem dX8_cut_83 : decode cX8_cut 83 = .ok (.iload_n 1, 1) := by decide +kernel
theorem dX8_cut_84 : decode cX8_cut 84 = .ok (.dup2, 1) := by decide +kernel
theorem dX8_cut_85 : decode cX8_cut 85 = .ok (.iaload, 1) := by decide +kernel
theorem dX8_cut_86 : decode cX8_cut 86 = .ok (.iload_n 3, 1) := by decide +kernel
theorem dX8_cut_87 : decode cX8_cut 87 = .ok (.isub, 1) := by decide +kernel
theorem dX8_cut_88 : decode cX8_cut 88 = .ok (.iastore, 1) := by decide +kernel
theorem dX8_cut_89 : decode cX8_cut 89 = .ok (.iload_n 2, 1) := by decide +kernel
theorem dX8_cut_90 : decode cX8_cut 90 = .ok (.istore 6, 2) := by decide +kernel
theorem dX8_cut_92 : decode cX8_cut 92 = .ok (.iload 6, 2) := by decide +kernel
theorem dX8_cut_94 : decode cX8_cut 94 = .ok (.aload_n 0, 1) := by decide +kernel
theorem dX8_cut_95 : decode cX8_cut 95 = .ok (.getfield 31, 3) := by decide +kernel
theorem dX8_cut_98 : decode cX8_cut 98 = .ok (.iload_n 1, 1) := by decide +kernel
theorem dX8_cut_99 : decode cX8_cut 99 = .ok (.iaload, 1) := by decide +kernel
theorem dX8_cut_100 : decode cX8_cut 100 = .ok (.if_icmp .ge 29, 3) := by decide +kernel
theorem dX8_cut_103 : decode cX8_cut 103 = .ok (.aload_n 0, 1) := by decide +kernel
theorem dX8_cut_104 : decode cX8_cut 104 = .ok (.bipush 40, 2) := by decide +kernel
theorem dX8_cut_106 : decode cX8_cut 106 = .ok (.iload_n 1, 1) := by decide +kernel
theorem dX8_cut_107 : decode cX8_cut 107 = .ok (.imul, 1) := by decide +kernel
theorem dX8_cut_108 : decode cX8_cut 108 = .ok (.iload 6, 2) := by decide +kernel
theorem dX8_cut_110 : decode cX8_cut 110 = .ok (.iadd, 1) := by decide +kernel
theorem dX8_cut_111 : decode cX8_cut 111 = .ok (.iload_n 3, 1) := by decide +kernel
theorem dX8_cut_112 : decode cX8_cut 112 = .ok (.iadd, 1) := by decide +kernel
theorem dX8_cut_113 : decode cX8_cut 113 = .ok (.bipush 40, 2) := by decide +kernel
theorem dX8_cut_115 : decode cX8_cut 115 = .ok (.iload_n 1, 1) := by decide +kernel
theorem dX8_cut_116 : decode cX8_cut 116 = .ok (.imul, 1) := by decide +kernel
theorem dX8_cut_117 : decode cX8_cut 117 = .ok (.iload 6, 2) := by decide +kernel
theorem dX8_cut_119 : decode cX8_cut 119 = .ok (.iadd, 1) := by decide +kernel
theorem dX8_cut_120 : decode cX8_cut 120 = .ok (.invokevirtual 144, 3) := by decide +kernel
theorem dX8_cut_123 : decode cX8_cut 123 = .ok (.iinc 6 1, 3) := by decide +kernel
theorem dX8_cut_126 : decode cX8_cut 126 = .ok (.goto (-34), 3) := by decide +kernel
theorem dX8_cut_129 : decode cX8_cut 129 = .ok (.iconst 0, 1) := by decide +kernel
theorem dX8_cut_130 : decode cX8_cut 130 = .ok (.istore 6, 2) := by decide +kernel
theorem dX8_cut_132 : decode cX8_cut 132 = .ok (.iload 6, 2) := by decide +kernel
theorem dX8_cut_134 : decode cX8_cut 134 = .ok (.aload_n 0, 1) := by decide +kernel
theorem dX8_cut_135 : decode cX8_cut 135 = .ok (.getfield 147, 3) := by decide +kernel
theorem dX8_cut_138 : decode cX8_cut 138 = .ok (.if_icmp .ge 34, 3) := by decide +kernel
theorem dX8_cut_141 : decode cX8_cut 141 = .ok (.aload_n 0, 1) := by decide +kernel
theorem dX8_cut_142 : decode cX8_cut 142 = .ok (.getfield 62, 3) := by decide +kernel
theorem dX8_cut_145 : decode cX8_cut 145 = .ok (.iload 6, 2) := by decide +kernel
theorem dX8_cut_147 : decode cX8_cut 147 = .ok (.iaload, 1) := by decide +kernel
theorem dX8_cut_148 : decode cX8_cut 148 = .ok (.iload_n 1, 1) := by decide +kernel
theorem dX8_cut_149 : decode cX8_cut 149 = .ok (.if_icmp .ne 17, 3) := by decide +kernel
theorem dX8_cut_152 : decode cX8_cut 152 = .ok (.aload_n 0, 1) := by decide +kernel
theorem dX8_cut_153 : decode cX8_cut 153 = .ok (.iload 6, 2) := by decide +kernel
theorem dX8_cut_155 : decode cX8_cut 155 = .ok (.iload_n 2, 1) := by decide +kernel
theorem dX8_cut_156 : decode cX8_cut 156 = .ok (.iload_n 3, 1) := by decide +kernel
theorem dX8_cut_157 : decode cX8_cut 157 = .ok (.aload_n 0, 1) := by decide +kernel
theorem dX8_cut_158 : decode cX8_cut 158 = .ok (.getfield 31, 3) := by decide +kernel
theorem dX8_cut_161 : decode cX8_cut 161 = .ok (.iload_n 1, 1) := by decide +kernel
theorem dX8_cut_162 : decode cX8_cut 162 = .ok (.iaload, 1) := by decide +kernel
theorem dX8_cut_163 : decode cX8_cut 163 = .ok (.invokevirtual 150, 3) := by decide +kernel
theorem dX8_cut_166 : decode cX8_cut 166 = .ok (.iinc 6 1, 3) := by decide +kernel
theorem dX8_cut_169 : decode cX8_cut 169 = .ok (.goto (-37), 3) := by decide +kernel
theorem dX8_cut_172 : decode cX8_cut 172 = .ok (.aload_n 0, 1) := by decide +kernel
theorem dX8_cut_173 : decode cX8_cut 173 = .ok (.getfield 31, 3) := by decide +kernel
theorem dX8_cut_176 : decode cX8_cut 176 = .ok (.iload_n 1, 1) := by decide +kernel
theorem dX8_cut_177 : decode cX8_cut 177 = .ok (.iaload, 1) := by decide +kernel
theorem dX8_cut_178 : decode cX8_cut 178 = .ok (.ireturn, 1) := by decide +kernel
theorem dX8_note_0 : decode cX8_note 0 = .ok (.aload_n 0, 1) := by decide +kernel
theorem dX8_note_1 : decode cX8_note 1 = .ok (.aload_n 0, 1) := by decide +kernel
theorem dX8_note_2 : decode cX8_note 2 = .ok (.iload_n 1, 1) := by decide +kernel
theorem dX8_note_3 : decode cX8_note 3 = .ok (.iload_n 2, 1) := by decide +kernel
theorem dX8_note_4 : decode cX8_note 4 = .ok (.invokevirtual 141, 3) := by decide +kernel
theorem dX8_note_7 : decode cX8_note 7 = .ok (.ifCond .ne 7, 3) := by decide +kernel
theorem dX8_note_10 : decode cX8_note 10 = .ok (.iconst 1, 1) := by decide +kernel
theorem dX8_note_11 : decode cX8_note 11 = .ok (.goto 17, 3) := by decide +kernel
theorem dX8_note_14 : decode cX8_note 14 = .ok (.aload_n 0, 1) := by decide +kernel
theorem dX8_note_15 : decode cX8_note 15 = .ok (.getfield 147, 3) := by decide +kernel
theorem dX8_note_18 : decode cX8_note 18 = .ok (.bipush 40, 2) := by decide +kernel
theorem dX8_note_20 : decode cX8_note 20 = .ok (.if_icmp .ne 7, 3) := by decide +kernel
theorem dX8_note_23 : decode cX8_note 23 = .ok (.iconst 2, 1) := by decide +kernel
theorem dX8_note_24 : decode cX8_note 24 = .ok (.goto 4, 3) := by decide +kernel
theorem dX8_note_27 : decode cX8_note 27 = .ok (.iconst 0, 1) := by decide +kernel
theorem dX8_note_28 : decode cX8_note 28 = .ok (.invokevirtual 112, 3) := by decide +kernel
theorem dX8_note_31 : decode cX8_note 31 = .ok (.ifCond .ne 5, 3) := by decide +kernel
theorem dX8_note_34 : decode cX8_note 34 = .ok (.iconst 0, 1) := by decide +kernel
theorem dX8_note_35 : decode cX8_note 35 = .ok (.ireturn, 1) := by decide +kernel
theorem dX8_note_36 : decode cX8_note 36 = .ok (.aload_n 0, 1) := by decide +kernel
theorem dX8_note_37 : decode cX8_note 37 = .ok (.getfield 62, 3) := by decide +kernel
theorem dX8_note_40 : decode cX8_note 40 = .ok (.aload_n 0, 1) := by decide +kernel
theorem dX8_note_41 : decode cX8_note 41 = .ok (.getfield 147, 3) := by decide +kernel
theorem dX8_note_44 : decode cX8_note 44 = .ok (.iload_n 1, 1) := by decide +kernel
theorem dX8_note_45 : decode cX8_note 45 = .ok (.iastore, 1) := by decide +kernel
theorem dX8_note_46 : decode cX8_note 46 = .ok (.aload_n 0, 1) := by decide +kernel
theorem dX8_note_47 : decode cX8_note 47 = .ok (.getfield 65, 3) := by decide +kernel
theorem dX8_note_50 : decode cX8_note 50 = .ok (.aload_n 0, 1) := by decide +kernel
theorem dX8_note_51 : decode cX8_note 51 = .ok (.getfield 147, 3) := by decide +kernel
theorem dX8_note_54 : decode cX8_note 54 = .ok (.iload_n 2, 1) := by decide +kernel
theorem dX8_note_55 : decode cX8_note 55 = .ok (.iastore, 1) := by decide +kernel
theorem dX8_note_56 : decode cX8_note 56 = .ok (.aload_n 0, 1) := by decide +kernel
theorem dX8_note_57 : decode cX8_note 57 = .ok (.dup, 1) := by decide +kernel
theorem dX8_note_58 : decode cX8_note 58 = .ok (.getfield 147, 3) := by decide +kernel
theorem dX8_note_61 : decode cX8_note 61 = .ok (.iconst 1, 1) := by decide +kernel
theorem dX8_note_62 : decode cX8_note 62 = .ok (.iadd, 1) := by decide +kernel
theorem dX8_note_63 : decode cX8_note 63 = .ok (.putfield 147, 3) := by decide +kernel
theorem dX8_note_66 : decode cX8_note 66 = .ok (.aload_n 0, 1) := by decide +kernel
theorem dX8_note_67 : decode cX8_note 67 = .ok (.getfield 147, 3) := by decide +kernel
theorem dX8_note_70 : decode cX8_note 70 = .ok (.iconst 1, 1) := by decide +kernel
theorem dX8_note_71 : decode cX8_note 71 = .ok (.isub, 1) := by decide +kernel
theorem dX8_note_72 : decode cX8_note 72 = .ok (.ireturn, 1) := by decide +kernel
theorem dX8_unsettled_0 : decode cX8_unsettled 0 = .ok (.iconst 0, 1) := by decide +kernel
theorem dX8_unsettled_1 : decode cX8_unsettled 1 = .ok (.istore_n 3, 1) := by decide +kernel
theorem dX8_unsettled_2 : decode cX8_unsettled 2 = .ok (.iconst 0, 1) := by decide +kernel
theorem dX8_unsettled_3 : decode cX8_unsettled 3 = .ok (.istore 4, 2) := by decide +kernel
theorem dX8_unsettled_5 : decode cX8_unsettled 5 = .ok (.iload 4, 2) := by decide +kernel
theorem dX8_unsettled_7 : decode cX8_unsettled 7 = .ok (.aload_n 0, 1) := by decide +kernel
theorem dX8_unsettled_8 : decode cX8_unsettled 8 = .ok (.getfield 147, 3) := by decide +kernel
theorem dX8_unsettled_11 : decode cX8_unsettled 11 = .ok (.if_icmp .ge 59, 3) := by decide +kernel
theorem dX8_unsettled_14 : decode cX8_unsettled 14 = .ok (.iload_n 3, 1) := by decide +kernel
theorem dX8_unsettled_15 : decode cX8_unsettled 15 = .ok (.aload_n 0, 1) := by decide +kernel
theorem dX8_unsettled_16 : decode cX8_unsettled 16 = .ok (.getfield 68, 3) := by decide +kernel
theorem dX8_unsettled_19 : decode cX8_unsettled 19 = .ok (.iload 4, 2) := by decide +kernel
theorem dX8_unsettled_21 : decode cX8_unsettled 21 = .ok (.baload, 1) := by decide +kernel
theorem dX8_unsettled_22 : decode cX8_unsettled 22 = .ok (.ifCond .ne 39, 3) := by decide +kernel
theorem dX8_unsettled_25 : decode cX8_unsettled 25 = .ok (.iload_n 1, 1) := by decide +kernel
theorem dX8_unsettled_26 : decode cX8_unsettled 26 = .ok (.iconst (-1), 1) := by decide +kernel
theorem dX8_unsettled_27 : decode cX8_unsettled 27 = .ok (.if_icmp .eq 14, 3) := by decide +kernel
theorem dX8_unsettled_30 : decode cX8_unsettled 30 = .ok (.aload_n 0, 1) := by decide +kernel
theorem dX8_unsettled_31 : decode cX8_unsettled 31 = .ok (.getfield 62, 3) := by decide +kernel
theorem dX8_unsettled_34 : decode cX8_unsettled 34 = .ok (.iload 4, 2) := by decide +kernel
theorem dX8_unsettled_36 : decode cX8_unsettled 36 = .ok (.iaload, 1) := by decide +kernel
theorem dX8_unsettled_37 : decode cX8_unsettled 37 = .ok (.iload_n 1, 1) := by decide +kernel
theorem dX8_unsettled_38 : decode cX8_unsettled 38 = .ok (.if_icmp .ne 23, 3) := by decide +kernel
theorem dX8_unsettled_41 : decode cX8_unsettled 41 = .ok (.iload_n 2, 1) := by decide +kernel
theorem dX8_unsettled_42 : decode cX8_unsettled 42 = .ok (.iconst (-1), 1) := by decide +kernel
theorem dX8_unsettled_43 : decode cX8_unsettled 43 = .ok (.if_icmp .eq 14, 3) := by decide +kernel
theorem dX8_unsettled_46 : decode cX8_unsettled 46 = .ok (.aload_n 0, 1) := by decide +kernel
theorem dX8_unsettled_47 : decode cX8_unsettled 47 = .ok (.getfield 65, 3) := by decide +kernel
theorem dX8_unsettled_50 : decode cX8_unsettled 50 = .ok (.iload 4, 2) := by decide +kernel
theorem dX8_unsettled_52 : decode cX8_unsettled 52 = .ok (.iaload, 1) := by decide +kernel
theorem dX8_unsettled_53 : decode cX8_unsettled 53 = .ok (.iload_n 2, 1) := by decide +kernel
theorem dX8_unsettled_54 : decode cX8_unsettled 54 = .ok (.if_icmp .ne 7, 3) := by decide +kernel
theorem dX8_unsettled_57 : decode cX8_unsettled 57 = .ok (.iconst 1, 1) := by decide +kernel
theorem dX8_unsettled_58 : decode cX8_unsettled 58 = .ok (.goto 4, 3) := by decide +kernel
theorem dX8_unsettled_61 : decode cX8_unsettled 61 = .ok (.iconst 0, 1) := by decide +kernel
theorem dX8_unsettled_62 : decode cX8_unsettled 62 = .ok (.iadd, 1) := by decide +kernel
theorem dX8_unsettled_63 : decode cX8_unsettled 63 = .ok (.istore_n 3, 1) := by decide +kernel
theorem dX8_unsettled_64 : decode cX8_unsettled 64 = .ok (.iinc 4 1, 3) := by decide +kernel
theorem dX8_unsettled_67 : decode cX8_unsettled 67 = .ok (.goto (-62), 3) := by decide +kernel
theorem dX8_unsettled_70 : decode cX8_unsettled 70 = .ok (.iload_n 3, 1) := by decide +kernel
theorem dX8_unsettled_71 : decode cX8_unsettled 71 = .ok (.ireturn, 1) := by decide +kernel
theorem dX8_settle_0 : decode cX8_settle 0 = .ok (.iload_n 1, 1) := by decide +kernel
theorem dX8_settle_1 : decode cX8_settle 1 = .ok (.iconst 0, 1) := by decide +kernel
theorem dX8_settle_2 : decode cX8_settle 2 = .ok (.aload_n 0, 1) := by decide +kernel
theorem dX8_settle_3 : decode cX8_settle 3 = .ok (.getfield 147, 3) := by decide +kernel
theorem dX8_settle_6 : decode cX8_settle 6 = .ok (.iconst 1, 1) := by decide +kernel
theorem dX8_settle_7 : decode cX8_settle 7 = .ok (.isub, 1) := by decide +kernel
theorem dX8_settle_8 : decode cX8_settle 8 = .ok (.invokestatic 81, 3) := by decide +kernel
theorem dX8_settle_11 : decode cX8_settle 11 = .ok (.istore_n 2, 1) := by decide +kernel
theorem dX8_settle_12 : decode cX8_settle 12 = .ok (.aload_n 0, 1) := by decide +kernel
theorem dX8_settle_13 : decode cX8_settle 13 = .ok (.iload_n 2, 1) := by decide +kernel
theorem dX8_settle_14 : decode cX8_settle 14 = .ok (.ifCond .ne 7, 3) := by decide +kernel
theorem dX8_settle_17 : decode cX8_settle 17 = .ok (.iconst 1, 1) := by decide +kernel
theorem dX8_settle_18 : decode cX8_settle 18 = .ok (.goto 17, 3) := by decide +kernel
theorem dX8_settle_21 : decode cX8_settle 21 = .ok (.aload_n 0, 1) := by decide +kernel
theorem dX8_settle_22 : decode cX8_settle 22 = .ok (.getfield 68, 3) := by decide +kernel
theorem dX8_settle_25 : decode cX8_settle 25 = .ok (.iload_n 1, 1) := by decide +kernel
theorem dX8_settle_26 : decode cX8_settle 26 = .ok (.baload, 1) := by decide +kernel
theorem dX8_settle_27 : decode cX8_settle 27 = .ok (.ifCond .eq 7, 3) := by decide +kernel
theorem dX8_settle_30 : decode cX8_settle 30 = .ok (.iconst 2, 1) := by decide +kernel
theorem dX8_settle_31 : decode cX8_settle 31 = .ok (.goto 4, 3) := by decide +kernel
theorem dX8_settle_34 : decode cX8_settle 34 = .ok (.iconst 0, 1) := by decide +kernel
theorem dX8_settle_35 : decode cX8_settle 35 = .ok (.invokevirtual 112, 3) := by decide +kernel
theorem dX8_settle_38 : decode cX8_settle 38 = .ok (.ifCond .ne 5, 3) := by decide +kernel
theorem dX8_settle_41 : decode cX8_settle 41 = .ok (.iconst 0, 1) := by decide +kernel
theorem dX8_settle_42 : decode cX8_settle 42 = .ok (.ireturn, 1) := by decide +kernel
theorem dX8_settle_43 : decode cX8_settle 43 = .ok (.aload_n 0, 1) := by decide +kernel
theorem dX8_settle_44 : decode cX8_settle 44 = .ok (.getfield 68, 3) := by decide +kernel
theorem dX8_settle_47 : decode cX8_settle 47 = .ok (.iload_n 1, 1) := by decide +kernel
theorem dX8_settle_48 : decode cX8_settle 48 = .ok (.iconst 1, 1) := by decide +kernel
theorem dX8_settle_49 : decode cX8_settle 49 = .ok (.bastore, 1) := by decide +kernel
theorem dX8_settle_50 : decode cX8_settle 50 = .ok (.aload_n 0, 1) := by decide +kernel
theorem dX8_settle_51 : decode cX8_settle 51 = .ok (.aload_n 0, 1) := by decide +kernel
theorem dX8_settle_52 : decode cX8_settle 52 = .ok (.getfield 62, 3) := by decide +kernel
theorem dX8_settle_55 : decode cX8_settle 55 = .ok (.iload_n 1, 1) := by decide +kernel
theorem dX8_settle_56 : decode cX8_settle 56 = .ok (.iaload, 1) := by decide +kernel
theorem dX8_settle_57 : decode cX8_settle 57 = .ok (.iconst (-1), 1) := by decide +kernel
theorem dX8_settle_58 : decode cX8_settle 58 = .ok (.invokevirtual 153, 3) := by decide +kernel
theorem dX8_settle_61 : decode cX8_settle 61 = .ok (.ireturn, 1) := by decide +kernel
theorem dX8_ofNote_0 : decode cX8_ofNote 0 = .ok (.aload_n 0, 1) := by decide +kernel
theorem dX8_ofNote_1 : decode cX8_ofNote 1 = .ok (.iload_n 1, 1) := by decide +kernel
theorem dX8_ofNote_2 : decode cX8_ofNote 2 = .ok (.iconst 0, 1) := by decide +kernel
theorem dX8_ofNote_3 : decode cX8_ofNote 3 = .ok (.aload_n 0, 1) := by decide +kernel
theorem dX8_ofNote_4 : decode cX8_ofNote 4 = .ok (.getfield 147, 3) := by decide +kernel
theorem dX8_ofNote_7 : decode cX8_ofNote 7 = .ok (.iconst 1, 1) := by decide +kernel
theorem dX8_ofNote_8 : decode cX8_ofNote 8 = .ok (.isub, 1) := by decide +kernel
theorem dX8_ofNote_9 : decode cX8_ofNote 9 = .ok (.invokestatic 81, 3) := by decide +kernel
theorem dX8_ofNote_12 : decode cX8_ofNote 12 = .ok (.ifCond .eq 16, 3) := by decide +kernel
theorem dX8_ofNote_15 : decode cX8_ofNote 15 = .ok (.iload_n 2, 1) := by decide +kernel
theorem dX8_ofNote_16 : decode cX8_ofNote 16 = .ok (.iconst 0, 1) := by decide +kernel
theorem dX8_ofNote_17 : decode cX8_ofNote 17 = .ok (.iconst 3, 1) := by decide +kernel
theorem dX8_ofNote_18 : decode cX8_ofNote 18 = .ok (.invokestatic 81, 3) := by decide +kernel
theorem dX8_ofNote_21 : decode cX8_ofNote 21 = .ok (.ifCond .eq 7, 3) := by decide +kernel
theorem dX8_ofNote_24 : decode cX8_ofNote 24 = .ok (.iconst 0, 1) := by decide +kernel
theorem dX8_ofNote_25 : decode cX8_ofNote 25 = .ok (.goto 4, 3) := by decide +kernel
theorem dX8_ofNote_28 : decode cX8_ofNote 28 = .ok (.iconst 1, 1) := by decide +kernel
theorem dX8_ofNote_29 : decode cX8_ofNote 29 = .ok (.invokevirtual 112, 3) := by decide +kernel
theorem dX8_ofNote_32 : decode cX8_ofNote 32 = .ok (.ifCond .ne 5, 3) := by decide +kernel
theorem dX8_ofNote_35 : decode cX8_ofNote 35 = .ok (.iconst 0, 1) := by decide +kernel
theorem dX8_ofNote_36 : decode cX8_ofNote 36 = .ok (.ireturn, 1) := by decide +kernel
theorem dX8_ofNote_37 : decode cX8_ofNote 37 = .ok (.iload_n 2, 1) := by decide +kernel
theorem dX8_ofNote_38 : decode cX8_ofNote 38 = .ok (.ifCond .ne 12, 3) := by decide +kernel
theorem dX8_ofNote_41 : decode cX8_ofNote 41 = .ok (.aload_n 0, 1) := by decide +kernel
theorem dX8_ofNote_42 : decode cX8_ofNote 42 = .ok (.getfield 62, 3) := by decide +kernel
theorem dX8_ofNote_45 : decode cX8_ofNote 45 = .ok (.iload_n 1, 1) := by decide +kernel
theorem dX8_ofNote_46 : decode cX8_ofNote 46 = .ok (.iaload, 1) := by decide +kernel
theorem dX8_ofNote_47 : decode cX8_ofNote 47 = .ok (.goto 45, 3) := by decide +kernel
theorem dX8_ofNote_50 : decode cX8_ofNote 50 = .ok (.iload_n 2, 1) := by decide +kernel
theorem dX8_ofNote_51 : decode cX8_ofNote 51 = .ok (.iconst 1, 1) := by decide +kernel
theorem dX8_ofNote_52 : decode cX8_ofNote 52 = .ok (.if_icmp .ne 12, 3) := by decide +kernel
theorem dX8_ofNote_55 : decode cX8_ofNote 55 = .ok (.aload_n 0, 1) := by decide +kernel
theorem dX8_ofNote_56 : decode cX8_ofNote 56 = .ok (.getfield 65, 3) := by decide +kernel
theorem dX8_ofNote_59 : decode cX8_ofNote 59 = .ok (.iload_n 1, 1) := by decide +kernel
theorem dX8_ofNote_60 : decode cX8_ofNote 60 = .ok (.iaload, 1) := by decide +kernel
theorem dX8_ofNote_61 : decode cX8_ofNote 61 = .ok (.goto 31, 3) := by decide +kernel
theorem dX8_ofNote_64 : decode cX8_ofNote 64 = .ok (.iload_n 2, 1) := by decide +kernel
theorem dX8_ofNote_65 : decode cX8_ofNote 65 = .ok (.iconst 2, 1) := by decide +kernel
theorem dX8_ofNote_66 : decode cX8_ofNote 66 = .ok (.if_icmp .ne 20, 3) := by decide +kernel
theorem dX8_ofNote_69 : decode cX8_ofNote 69 = .ok (.aload_n 0, 1) := by decide +kernel
theorem dX8_ofNote_70 : decode cX8_ofNote 70 = .ok (.getfield 68, 3) := by decide +kernel
theorem dX8_ofNote_73 : decode cX8_ofNote 73 = .ok (.iload_n 1, 1) := by decide +kernel
theorem dX8_ofNote_74 : decode cX8_ofNote 74 = .ok (.baload, 1) := by decide +kernel
theorem dX8_ofNote_75 : decode cX8_ofNote 75 = .ok (.ifCond .eq 7, 3) := by decide +kernel
theorem dX8_ofNote_78 : decode cX8_ofNote 78 = .ok (.iconst 1, 1) := by decide +kernel
theorem dX8_ofNote_79 : decode cX8_ofNote 79 = .ok (.goto 13, 3) := by decide +kernel
theorem dX8_ofNote_82 : decode cX8_ofNote 82 = .ok (.iconst 0, 1) := by decide +kernel
theorem dX8_ofNote_83 : decode cX8_ofNote 83 = .ok (.goto 9, 3) := by decide +kernel
theorem dX8_ofNote_86 : decode cX8_ofNote 86 = .ok (.aload_n 0, 1) := by decide +kernel
theorem dX8_ofNote_87 : decode cX8_ofNote 87 = .ok (.getfield 71, 3) := by decide +kernel
theorem dX8_ofNote_90 : decode cX8_ofNote 90 = .ok (.iload_n 1, 1) := by decide +kernel
theorem dX8_ofNote_91 : decode cX8_ofNote 91 = .ok (.iaload, 1) := by decide +kernel
theorem dX8_ofNote_92 : decode cX8_ofNote 92 = .ok (.ireturn, 1) := by decide +kernel
theorem dX8_seenVersion_0 : decode cX8_seenVersion 0 = .ok (.bipush 8, 2) := by decide +kernel
theorem dX8_seenVersion_2 : decode cX8_seenVersion 2 = .ok (.iload_n 1, 1) := by decide +kernel
theorem dX8_seenVersion_3 : decode cX8_seenVersion 3 = .ok (.imul, 1) := by decide +kernel
theorem dX8_seenVersion_4 : decode cX8_seenVersion 4 = .ok (.iload_n 3, 1) := by decide +kernel
theorem dX8_seenVersion_5 : decode cX8_seenVersion 5 = .ok (.iadd, 1) := by decide +kernel
theorem dX8_seenVersion_6 : decode cX8_seenVersion 6 = .ok (.istore 4, 2) := by decide +kernel
theorem dX8_seenVersion_8 : decode cX8_seenVersion 8 = .ok (.aload_n 0, 1) := by decide +kernel
theorem dX8_seenVersion_9 : decode cX8_seenVersion 9 = .ok (.getfield 47, 3) := by decide +kernel
theorem dX8_seenVersion_12 : decode cX8_seenVersion 12 = .ok (.bipush 40, 2) := by decide +kernel
theorem dX8_seenVersion_14 : decode cX8_seenVersion 14 = .ok (.iload_n 1, 1) := by decide +kernel
theorem dX8_seenVersion_15 : decode cX8_seenVersion 15 = .ok (.imul, 1) := by decide +kernel
theorem dX8_seenVersion_16 : decode cX8_seenVersion 16 = .ok (.iload_n 2, 1) := by decide +kernel
theorem dX8_seenVersion_17 : decode cX8_seenVersion 17 = .ok (.iadd, 1) := by decide +kernel
theorem dX8_seenVersion_18 : decode cX8_seenVersion 18 = .ok (.iaload, 1) := by decide +kernel
theorem dX8_seenVersion_19 : decode cX8_seenVersion 19 = .ok (.istore 5, 2) := by decide +kernel
theorem dX8_seenVersion_21 : decode cX8_seenVersion 21 = .ok (.aload_n 0, 1) := by decide +kernel
theorem dX8_seenVersion_22 : decode cX8_seenVersion 22 = .ok (.getfield 34, 3) := by decide +kernel
theorem dX8_seenVersion_25 : decode cX8_seenVersion 25 = .ok (.iload 4, 2) := by decide +kernel
theorem dX8_seenVersion_27 : decode cX8_seenVersion 27 = .ok (.baload, 1) := by decide +kernel
theorem dX8_seenVersion_28 : decode cX8_seenVersion 28 = .ok (.ifCond .eq 25, 3) := by decide +kernel
theorem dX8_seenVersion_31 : decode cX8_seenVersion 31 = .ok (.iload 5, 2) := by decide +kernel
theorem dX8_seenVersion_33 : decode cX8_seenVersion 33 = .ok (.aload_n 0, 1) := by decide +kernel
theorem dX8_seenVersion_34 : decode cX8_seenVersion 34 = .ok (.getfield 41, 3) := by decide +kernel
theorem dX8_seenVersion_37 : decode cX8_seenVersion 37 = .ok (.iload 4, 2) := by decide +kernel
theorem dX8_seenVersion_39 : decode cX8_seenVersion 39 = .ok (.iaload, 1) := by decide +kernel
theorem dX8_seenVersion_40 : decode cX8_seenVersion 40 = .ok (.aload_n 0, 1) := by decide +kernel
theorem dX8_seenVersion_41 : decode cX8_seenVersion 41 = .ok (.getfield 44, 3) := by decide +kernel
theorem dX8_seenVersion_44 : decode cX8_seenVersion 44 = .ok (.iload 4, 2) := by decide +kernel
theorem dX8_seenVersion_46 : decode cX8_seenVersion 46 = .ok (.iaload, 1) := by decide +kernel
theorem dX8_seenVersion_47 : decode cX8_seenVersion 47 = .ok (.invokestatic 81, 3) := by decide +kernel
theorem dX8_seenVersion_50 : decode cX8_seenVersion 50 = .ok (.ifCond .ne 5, 3) := by decide +kernel
theorem dX8_seenVersion_53 : decode cX8_seenVersion 53 = .ok (.iconst (-1), 1) := by decide +kernel
theorem dX8_seenVersion_54 : decode cX8_seenVersion 54 = .ok (.ireturn, 1) := by decide +kernel
theorem dX8_seenVersion_55 : decode cX8_seenVersion 55 = .ok (.aload_n 0, 1) := by decide +kernel
theorem dX8_seenVersion_56 : decode cX8_seenVersion 56 = .ok (.getfield 38, 3) := by decide +kernel
theorem dX8_seenVersion_59 : decode cX8_seenVersion 59 = .ok (.iload 4, 2) := by decide +kernel
theorem dX8_seenVersion_61 : decode cX8_seenVersion 61 = .ok (.iaload, 1) := by decide +kernel
theorem dX8_seenVersion_62 : decode cX8_seenVersion 62 = .ok (.iconst (-1), 1) := by decide +kernel
theorem dX8_seenVersion_63 : decode cX8_seenVersion 63 = .ok (.if_icmp .eq 13, 3) := by decide +kernel
theorem dX8_seenVersion_66 : decode cX8_seenVersion 66 = .ok (.aload_n 0, 1) := by decide +kernel
theorem dX8_seenVersion_67 : decode cX8_seenVersion 67 = .ok (.getfield 38, 3) := by decide +kernel
theorem dX8_seenVersion_70 : decode cX8_seenVersion 70 = .ok (.iload 4, 2) := by decide +kernel
theorem dX8_seenVersion_72 : decode cX8_seenVersion 72 = .ok (.iaload, 1) := by decide +kernel
theorem dX8_seenVersion_73 : decode cX8_seenVersion 73 = .ok (.goto 11, 3) := by decide +kernel
theorem dX8_seenVersion_76 : decode cX8_seenVersion 76 = .ok (.aload_n 0, 1) := by decide +kernel
theorem dX8_seenVersion_77 : decode cX8_seenVersion 77 = .ok (.getfield 7, 3) := by decide +kernel
theorem dX8_seenVersion_80 : decode cX8_seenVersion 80 = .ok (.iload_n 3, 1) := by decide +kernel
theorem dX8_seenVersion_81 : decode cX8_seenVersion 81 = .ok (.iaload, 1) := by decide +kernel
theorem dX8_seenVersion_82 : decode cX8_seenVersion 82 = .ok (.iconst 1, 1) := by decide +kernel
theorem dX8_seenVersion_83 : decode cX8_seenVersion 83 = .ok (.isub, 1) := by decide +kernel
theorem dX8_seenVersion_84 : decode cX8_seenVersion 84 = .ok (.ireturn, 1) := by decide +kernel
theorem dX8_seenBones_0 : decode cX8_seenBones 0 = .ok (.aload_n 0, 1) := by decide +kernel
theorem dX8_seenBones_1 : decode cX8_seenBones 1 = .ok (.iload_n 1, 1) := by decide +kernel
theorem dX8_seenBones_2 : decode cX8_seenBones 2 = .ok (.iload_n 2, 1) := by decide +kernel
theorem dX8_seenBones_3 : decode cX8_seenBones 3 = .ok (.iload_n 3, 1) := by decide +kernel
theorem dX8_seenBones_4 : decode cX8_seenBones 4 = .ok (.invokevirtual 156, 3) := by decide +kernel
theorem dX8_seenBones_7 : decode cX8_seenBones 7 = .ok (.istore 4, 2) := by decide +kernel
theorem dX8_seenBones_9 : decode cX8_seenBones 9 = .ok (.iload 4, 2) := by decide +kernel
theorem dX8_seenBones_11 : decode cX8_seenBones 11 = .ok (.iconst (-1), 1) := by decide +kernel
theorem dX8_seenBones_12 : decode cX8_seenBones 12 = .ok (.if_icmp .ne 7, 3) := by decide +kernel
theorem dX8_seenBones_15 : decode cX8_seenBones 15 = .ok (.iconst 0, 1) := by decide +kernel
theorem dX8_seenBones_16 : decode cX8_seenBones 16 = .ok (.goto 14, 3) := by decide +kernel
theorem dX8_seenBones_19 : decode cX8_seenBones 19 = .ok (.aload_n 0, 1) := by decide +kernel
theorem dX8_seenBones_20 : decode cX8_seenBones 20 = .ok (.getfield 13, 3) := by decide +kernel
theorem dX8_seenBones_23 : decode cX8_seenBones 23 = .ok (.iload_n 3, 1) := by decide +kernel
theorem dX8_seenBones_24 : decode cX8_seenBones 24 = .ok (.iload 4, 2) := by decide +kernel
theorem dX8_seenBones_26 : decode cX8_seenBones 26 = .ok (.invokestatic 99, 3) := by decide +kernel
theorem dX8_seenBones_29 : decode cX8_seenBones 29 = .ok (.iaload, 1) := by decide +kernel
theorem dX8_seenBones_30 : decode cX8_seenBones 30 = .ok (.ireturn, 1) := by decide +kernel
theorem dX8_isAsKept_0 : decode cX8_isAsKept 0 = .ok (.bipush 8, 2) := by decide +kernel
theorem dX8_isAsKept_2 : decode cX8_isAsKept 2 = .ok (.bipush 40, 2) := by decide +kernel
theorem dX8_isAsKept_4 : decode cX8_isAsKept 4 = .ok (.iload_n 1, 1) := by decide +kernel
theorem dX8_isAsKept_5 : decode cX8_isAsKept 5 = .ok (.imul, 1) := by decide +kernel
theorem dX8_isAsKept_6 : decode cX8_isAsKept 6 = .ok (.iload_n 2, 1) := by decide +kernel
theorem dX8_isAsKept_7 : decode cX8_isAsKept 7 = .ok (.iadd, 1) := by decide +kernel
theorem dX8_isAsKept_8 : decode cX8_isAsKept 8 = .ok (.imul, 1) := by decide +kernel
theorem dX8_isAsKept_9 : decode cX8_isAsKept 9 = .ok (.iload_n 3, 1) := by decide +kernel
theorem dX8_isAsKept_10 : decode cX8_isAsKept 10 = .ok (.iadd, 1) := by decide +kernel
theorem dX8_isAsKept_11 : decode cX8_isAsKept 11 = .ok (.istore 4, 2) := by decide +kernel
theorem dX8_isAsKept_13 : decode cX8_isAsKept 13 = .ok (.aload_n 0, 1) := by decide +kernel
theorem dX8_isAsKept_14 : decode cX8_isAsKept 14 = .ok (.iload_n 1, 1) := by decide +kernel
theorem dX8_isAsKept_15 : decode cX8_isAsKept 15 = .ok (.iload_n 2, 1) := by decide +kernel
theorem dX8_isAsKept_16 : decode cX8_isAsKept 16 = .ok (.iload_n 3, 1) := by decide +kernel
theorem dX8_isAsKept_17 : decode cX8_isAsKept 17 = .ok (.invokevirtual 159, 3) := by decide +kernel
theorem dX8_isAsKept_20 : decode cX8_isAsKept 20 = .ok (.istore 5, 2) := by decide +kernel
theorem dX8_isAsKept_22 : decode cX8_isAsKept 22 = .ok (.iload_n 3, 1) := by decide +kernel
theorem dX8_isAsKept_23 : decode cX8_isAsKept 23 = .ok (.aload_n 0, 1) := by decide +kernel
theorem dX8_isAsKept_24 : decode cX8_isAsKept 24 = .ok (.iload_n 1, 1) := by decide +kernel
theorem dX8_isAsKept_25 : decode cX8_isAsKept 25 = .ok (.iload_n 2, 1) := by decide +kernel
theorem dX8_isAsKept_26 : decode cX8_isAsKept 26 = .ok (.iload_n 3, 1) := by decide +kernel
theorem dX8_isAsKept_27 : decode cX8_isAsKept 27 = .ok (.invokevirtual 156, 3) := by decide +kernel
theorem dX8_isAsKept_30 : decode cX8_isAsKept 30 = .ok (.invokestatic 99, 3) := by decide +kernel
theorem dX8_isAsKept_33 : decode cX8_isAsKept 33 = .ok (.istore 6, 2) := by decide +kernel
theorem dX8_isAsKept_35 : decode cX8_isAsKept 35 = .ok (.iload 5, 2) := by decide +kernel
theorem dX8_isAsKept_37 : decode cX8_isAsKept 37 = .ok (.aload_n 0, 1) := by decide +kernel
theorem dX8_isAsKept_38 : decode cX8_isAsKept 38 = .ok (.getfield 56, 3) := by decide +kernel
theorem dX8_isAsKept_41 : decode cX8_isAsKept 41 = .ok (.iload 4, 2) := by decide +kernel
theorem dX8_isAsKept_43 : decode cX8_isAsKept 43 = .ok (.iaload, 1) := by decide +kernel
theorem dX8_isAsKept_44 : decode cX8_isAsKept 44 = .ok (.if_icmp .ne 7, 3) := by decide +kernel
theorem dX8_isAsKept_47 : decode cX8_isAsKept 47 = .ok (.iconst 1, 1) := by decide +kernel
theorem dX8_isAsKept_48 : decode cX8_isAsKept 48 = .ok (.goto 4, 3) := by decide +kernel
theorem dX8_isAsKept_51 : decode cX8_isAsKept 51 = .ok (.iconst 0, 1) := by decide +kernel
theorem dX8_isAsKept_52 : decode cX8_isAsKept 52 = .ok (.istore 7, 2) := by decide +kernel
theorem dX8_isAsKept_54 : decode cX8_isAsKept 54 = .ok (.iconst 0, 1) := by decide +kernel
theorem dX8_isAsKept_55 : decode cX8_isAsKept 55 = .ok (.istore 8, 2) := by decide +kernel
theorem dX8_isAsKept_57 : decode cX8_isAsKept 57 = .ok (.iload 8, 2) := by decide +kernel
theorem dX8_isAsKept_59 : decode cX8_isAsKept 59 = .ok (.iload 5, 2) := by decide +kernel
theorem dX8_isAsKept_61 : decode cX8_isAsKept 61 = .ok (.if_icmp .ge 56, 3) := by decide +kernel
theorem dX8_isAsKept_64 : decode cX8_isAsKept 64 = .ok (.iload 7, 2) := by decide +kernel
theorem dX8_isAsKept_66 : decode cX8_isAsKept 66 = .ok (.ifCond .eq 51, 3) := by decide +kernel
theorem dX8_isAsKept_69 : decode cX8_isAsKept 69 = .ok (.aload_n 0, 1) := by decide +kernel
theorem dX8_isAsKept_70 : decode cX8_isAsKept 70 = .ok (.getfield 59, 3) := by decide +kernel
theorem dX8_isAsKept_73 : decode cX8_isAsKept 73 = .ok (.bipush 10, 2) := by decide +kernel
theorem dX8_isAsKept_75 : decode cX8_isAsKept 75 = .ok (.iload 4, 2) := by decide +kernel
theorem dX8_isAsKept_77 : decode cX8_isAsKept 77 = .ok (.imul, 1) := by decide +kernel
theorem dX8_isAsKept_78 : decode cX8_isAsKept 78 = .ok (.iload 8, 2) := by decide +kernel
theorem dX8_isAsKept_80 : decode cX8_isAsKept 80 = .ok (.iadd, 1) := by decide +kernel
theorem dX8_isAsKept_81 : decode cX8_isAsKept 81 = .ok (.iaload, 1) := by decide +kernel
theorem dX8_isAsKept_82 : decode cX8_isAsKept 82 = .ok (.aload_n 0, 1) := by decide +kernel
theorem dX8_isAsKept_83 : decode cX8_isAsKept 83 = .ok (.iload 6, 2) := by decide +kernel
theorem dX8_isAsKept_85 : decode cX8_isAsKept 85 = .ok (.iload 8, 2) := by decide +kernel
theorem dX8_isAsKept_87 : decode cX8_isAsKept 87 = .ok (.aload_n 0, 1) := by decide +kernel
theorem dX8_isAsKept_88 : decode cX8_isAsKept 88 = .ok (.getfield 47, 3) := by decide +kernel
theorem dX8_isAsKept_91 : decode cX8_isAsKept 91 = .ok (.bipush 40, 2) := by decide +kernel
theorem dX8_isAsKept_93 : decode cX8_isAsKept 93 = .ok (.iload_n 1, 1) := by decide +kernel
theorem dX8_isAsKept_94 : decode cX8_isAsKept 94 = .ok (.imul, 1) := by decide +kernel
theorem dX8_isAsKept_95 : decode cX8_isAsKept 95 = .ok (.iload_n 2, 1) := by decide +kernel
theorem dX8_isAsKept_96 : decode cX8_isAsKept 96 = .ok (.iadd, 1) := by decide +kernel
theorem dX8_isAsKept_97 : decode cX8_isAsKept 97 = .ok (.iaload, 1) := by decide +kernel
theorem dX8_isAsKept_98 : decode cX8_isAsKept 98 = .ok (.invokevirtual 129, 3) := by decide +kernel
theorem dX8_isAsKept_101 : decode cX8_isAsKept 101 = .ok (.if_icmp .ne 7, 3) := by decide +kernel
theorem dX8_isAsKept_104 : decode cX8_isAsKept 104 = .ok (.iconst 1, 1) := by decide +kernel
theorem dX8_isAsKept_105 : decode cX8_isAsKept 105 = .ok (.goto 4, 3) := by decide +kernel
theorem dX8_isAsKept_108 : decode cX8_isAsKept 108 = .ok (.iconst 0, 1) := by decide +kernel
theorem dX8_isAsKept_109 : decode cX8_isAsKept 109 = .ok (.istore 7, 2) := by decide +kernel
theorem dX8_isAsKept_111 : decode cX8_isAsKept 111 = .ok (.iinc 8 1, 3) := by decide +kernel
theorem dX8_isAsKept_114 : decode cX8_isAsKept 114 = .ok (.goto (-57), 3) := by decide +kernel
theorem dX8_isAsKept_117 : decode cX8_isAsKept 117 = .ok (.iload 7, 2) := by decide +kernel
theorem dX8_isAsKept_119 : decode cX8_isAsKept 119 = .ok (.ireturn, 1) := by decide +kernel
theorem dX8_isNeeded_0 : decode cX8_isNeeded 0 = .ok (.aload_n 0, 1) := by decide +kernel
theorem dX8_isNeeded_1 : decode cX8_isNeeded 1 = .ok (.getfield 50, 3) := by decide +kernel
theorem dX8_isNeeded_4 : decode cX8_isNeeded 4 = .ok (.bipush 40, 2) := by decide +kernel
theorem dX8_isNeeded_6 : decode cX8_isNeeded 6 = .ok (.iload_n 1, 1) := by decide +kernel
theorem dX8_isNeeded_7 : decode cX8_isNeeded 7 = .ok (.imul, 1) := by decide +kernel
theorem dX8_isNeeded_8 : decode cX8_isNeeded 8 = .ok (.iload_n 2, 1) := by decide +kernel
theorem dX8_isNeeded_9 : decode cX8_isNeeded 9 = .ok (.iadd, 1) := by decide +kernel
theorem dX8_isNeeded_10 : decode cX8_isNeeded 10 = .ok (.iaload, 1) := by decide +kernel
theorem dX8_isNeeded_11 : decode cX8_isNeeded 11 = .ok (.ifCond .ne 7, 3) := by decide +kernel
theorem dX8_isNeeded_14 : decode cX8_isNeeded 14 = .ok (.iconst 1, 1) := by decide +kernel
theorem dX8_isNeeded_15 : decode cX8_isNeeded 15 = .ok (.goto 4, 3) := by decide +kernel
theorem dX8_isNeeded_18 : decode cX8_isNeeded 18 = .ok (.iconst 0, 1) := by decide +kernel
theorem dX8_isNeeded_19 : decode cX8_isNeeded 19 = .ok (.istore_n 3, 1) := by decide +kernel
theorem dX8_isNeeded_20 : decode cX8_isNeeded 20 = .ok (.iconst 0, 1) := by decide +kernel
theorem dX8_isNeeded_21 : decode cX8_isNeeded 21 = .ok (.istore 4, 2) := by decide +kernel
theorem dX8_isNeeded_23 : decode cX8_isNeeded 23 = .ok (.iload 4, 2) := by decide +kernel
theorem dX8_isNeeded_25 : decode cX8_isNeeded 25 = .ok (.aload_n 0, 1) := by decide +kernel
theorem dX8_isNeeded_26 : decode cX8_isNeeded 26 = .ok (.getfield 74, 3) := by decide +kernel
theorem dX8_isNeeded_29 : decode cX8_isNeeded 29 = .ok (.if_icmp .ge 30, 3) := by decide +kernel
theorem dX8_isNeeded_32 : decode cX8_isNeeded 32 = .ok (.iload_n 3, 1) := by decide +kernel
theorem dX8_isNeeded_33 : decode cX8_isNeeded 33 = .ok (.ifCond .ne 14, 3) := by decide +kernel
theorem dX8_isNeeded_36 : decode cX8_isNeeded 36 = .ok (.aload_n 0, 1) := by decide +kernel
theorem dX8_isNeeded_37 : decode cX8_isNeeded 37 = .ok (.iload_n 1, 1) := by decide +kernel
theorem dX8_isNeeded_38 : decode cX8_isNeeded 38 = .ok (.iload_n 2, 1) := by decide +kernel
theorem dX8_isNeeded_39 : decode cX8_isNeeded 39 = .ok (.iload 4, 2) := by decide +kernel
theorem dX8_isNeeded_41 : decode cX8_isNeeded 41 = .ok (.invokevirtual 162, 3) := by decide +kernel
theorem dX8_isNeeded_44 : decode cX8_isNeeded 44 = .ok (.ifCond .ne 7, 3) := by decide +kernel
theorem dX8_isNeeded_47 : decode cX8_isNeeded 47 = .ok (.iconst 1, 1) := by decide +kernel
theorem dX8_isNeeded_48 : decode cX8_isNeeded 48 = .ok (.goto 4, 3) := by decide +kernel
theorem dX8_isNeeded_51 : decode cX8_isNeeded 51 = .ok (.iconst 0, 1) := by decide +kernel
theorem dX8_isNeeded_52 : decode cX8_isNeeded 52 = .ok (.istore_n 3, 1) := by decide +kernel
theorem dX8_isNeeded_53 : decode cX8_isNeeded 53 = .ok (.iinc 4 1, 3) := by decide +kernel
theorem dX8_isNeeded_56 : decode cX8_isNeeded 56 = .ok (.goto (-33), 3) := by decide +kernel
theorem dX8_isNeeded_59 : decode cX8_isNeeded 59 = .ok (.iload_n 3, 1) := by decide +kernel
theorem dX8_isNeeded_60 : decode cX8_isNeeded 60 = .ok (.ireturn, 1) := by decide +kernel
theorem dX8_keeps_0 : decode cX8_keeps 0 = .ok (.iconst 0, 1) := by decide +kernel
theorem dX8_keeps_1 : decode cX8_keeps 1 = .ok (.istore_n 3, 1) := by decide +kernel
theorem dX8_keeps_2 : decode cX8_keeps 2 = .ok (.iload_n 3, 1) := by decide +kernel
theorem dX8_keeps_3 : decode cX8_keeps 3 = .ok (.bipush 8, 2) := by decide +kernel
theorem dX8_keeps_5 : decode cX8_keeps 5 = .ok (.if_icmp .ge 137, 3) := by decide +kernel
theorem dX8_keeps_8 : decode cX8_keeps 8 = .ok (.bipush 8, 2) := by decide +kernel
theorem dX8_keeps_10 : decode cX8_keeps 10 = .ok (.bipush 40, 2) := by decide +kernel
theorem dX8_keeps_12 : decode cX8_keeps 12 = .ok (.iload_n 1, 1) := by decide +kernel
theorem dX8_keeps_13 : decode cX8_keeps 13 = .ok (.imul, 1) := by decide +kernel
theorem dX8_keeps_14 : decode cX8_keeps 14 = .ok (.iload_n 2, 1) := by decide +kernel
theorem dX8_keeps_15 : decode cX8_keeps 15 = .ok (.iadd, 1) := by decide +kernel
theorem dX8_keeps_16 : decode cX8_keeps 16 = .ok (.imul, 1) := by decide +kernel
theorem dX8_keeps_17 : decode cX8_keeps 17 = .ok (.iload_n 3, 1) := by decide +kernel
theorem dX8_keeps_18 : decode cX8_keeps 18 = .ok (.iadd, 1) := by decide +kernel
theorem dX8_keeps_19 : decode cX8_keeps 19 = .ok (.istore 4, 2) := by decide +kernel
theorem dX8_keeps_21 : decode cX8_keeps 21 = .ok (.iload_n 3, 1) := by decide +kernel
theorem dX8_keeps_22 : decode cX8_keeps 22 = .ok (.aload_n 0, 1) := by decide +kernel
theorem dX8_keeps_23 : decode cX8_keeps 23 = .ok (.getfield 74, 3) := by decide +kernel
theorem dX8_keeps_26 : decode cX8_keeps 26 = .ok (.if_icmp .ge 13, 3) := by decide +kernel
theorem dX8_keeps_29 : decode cX8_keeps 29 = .ok (.aload_n 0, 1) := by decide +kernel
theorem dX8_keeps_30 : decode cX8_keeps 30 = .ok (.iload_n 1, 1) := by decide +kernel
theorem dX8_keeps_31 : decode cX8_keeps 31 = .ok (.iload_n 2, 1) := by decide +kernel
theorem dX8_keeps_32 : decode cX8_keeps 32 = .ok (.iload_n 3, 1) := by decide +kernel
theorem dX8_keeps_33 : decode cX8_keeps 33 = .ok (.invokevirtual 156, 3) := by decide +kernel
theorem dX8_keeps_36 : decode cX8_keeps 36 = .ok (.goto 4, 3) := by decide +kernel
theorem dX8_keeps_39 : decode cX8_keeps 39 = .ok (.iconst (-1), 1) := by decide +kernel
theorem dX8_keeps_40 : decode cX8_keeps 40 = .ok (.istore 5, 2) := by decide +kernel
theorem dX8_keeps_42 : decode cX8_keeps 42 = .ok (.aload_n 0, 1) := by decide +kernel
theorem dX8_keeps_43 : decode cX8_keeps 43 = .ok (.getfield 53, 3) := by decide +kernel
theorem dX8_keeps_46 : decode cX8_keeps 46 = .ok (.iload 4, 2) := by decide +kernel
theorem dX8_keeps_48 : decode cX8_keeps 48 = .ok (.iload 5, 2) := by decide +kernel
theorem dX8_keeps_50 : decode cX8_keeps 50 = .ok (.iastore, 1) := by decide +kernel
theorem dX8_keeps_51 : decode cX8_keeps 51 = .ok (.aload_n 0, 1) := by decide +kernel
theorem dX8_keeps_52 : decode cX8_keeps 52 = .ok (.getfield 56, 3) := by decide +kernel
theorem dX8_keeps_55 : decode cX8_keeps 55 = .ok (.iload 4, 2) := by decide +kernel
theorem dX8_keeps_57 : decode cX8_keeps 57 = .ok (.iload 5, 2) := by decide +kernel
theorem dX8_keeps_59 : decode cX8_keeps 59 = .ok (.iconst (-1), 1) := by decide +kernel
theorem dX8_keeps_60 : decode cX8_keeps 60 = .ok (.if_icmp .ne 7, 3) := by decide +kernel
theorem dX8_keeps_63 : decode cX8_keeps 63 = .ok (.iconst 0, 1) := by decide +kernel
theorem dX8_keeps_64 : decode cX8_keeps 64 = .ok (.goto 14, 3) := by decide +kernel
theorem dX8_keeps_67 : decode cX8_keeps 67 = .ok (.aload_n 0, 1) := by decide +kernel
theorem dX8_keeps_68 : decode cX8_keeps 68 = .ok (.getfield 13, 3) := by decide +kernel
theorem dX8_keeps_71 : decode cX8_keeps 71 = .ok (.iload_n 3, 1) := by decide +kernel
theorem dX8_keeps_72 : decode cX8_keeps 72 = .ok (.iload 5, 2) := by decide +kernel
theorem dX8_keeps_74 : decode cX8_keeps 74 = .ok (.invokestatic 99, 3) := by decide +kernel
theorem dX8_keeps_77 : decode cX8_keeps 77 = .ok (.iaload, 1) := by decide +kernel
theorem dX8_keeps_78 : decode cX8_keeps 78 = .ok (.iastore, 1) := by decide +kernel
theorem dX8_keeps_79 : decode cX8_keeps 79 = .ok (.iconst 0, 1) := by decide +kernel
theorem dX8_keeps_80 : decode cX8_keeps 80 = .ok (.istore 6, 2) := by decide +kernel
theorem dX8_keeps_82 : decode cX8_keeps 82 = .ok (.iload 6, 2) := by decide +kernel
theorem dX8_keeps_84 : decode cX8_keeps 84 = .ok (.aload_n 0, 1) := by decide +kernel
theorem dX8_keeps_85 : decode cX8_keeps 85 = .ok (.getfield 56, 3) := by decide +kernel
theorem dX8_keeps_88 : decode cX8_keeps 88 = .ok (.iload 4, 2) := by decide +kernel
theorem dX8_keeps_90 : decode cX8_keeps 90 = .ok (.iaload, 1) := by decide +kernel
theorem dX8_keeps_91 : decode cX8_keeps 91 = .ok (.if_icmp .ge 45, 3) := by decide +kernel
theorem dX8_keeps_94 : decode cX8_keeps 94 = .ok (.aload_n 0, 1) := by decide +kernel
theorem dX8_keeps_95 : decode cX8_keeps 95 = .ok (.getfield 59, 3) := by decide +kernel
theorem dX8_keeps_98 : decode cX8_keeps 98 = .ok (.bipush 10, 2) := by decide +kernel
theorem dX8_keeps_100 : decode cX8_keeps 100 = .ok (.iload 4, 2) := by decide +kernel
theorem dX8_keeps_102 : decode cX8_keeps 102 = .ok (.imul, 1) := by decide +kernel
theorem dX8_keeps_103 : decode cX8_keeps 103 = .ok (.iload 6, 2) := by decide +kernel
theorem dX8_keeps_105 : decode cX8_keeps 105 = .ok (.iadd, 1) := by decide +kernel
theorem dX8_keeps_106 : decode cX8_keeps 106 = .ok (.aload_n 0, 1) := by decide +kernel
theorem dX8_keeps_107 : decode cX8_keeps 107 = .ok (.iload_n 3, 1) := by decide +kernel
theorem dX8_keeps_108 : decode cX8_keeps 108 = .ok (.iload 5, 2) := by decide +kernel
theorem dX8_keeps_110 : decode cX8_keeps 110 = .ok (.invokestatic 99, 3) := by decide +kernel
theorem dX8_keeps_113 : decode cX8_keeps 113 = .ok (.iload 6, 2) := by decide +kernel
theorem dX8_keeps_115 : decode cX8_keeps 115 = .ok (.aload_n 0, 1) := by decide +kernel
theorem dX8_keeps_116 : decode cX8_keeps 116 = .ok (.getfield 47, 3) := by decide +kernel
theorem dX8_keeps_119 : decode cX8_keeps 119 = .ok (.bipush 40, 2) := by decide +kernel
theorem dX8_keeps_121 : decode cX8_keeps 121 = .ok (.iload_n 1, 1) := by decide +kernel
theorem dX8_keeps_122 : decode cX8_keeps 122 = .ok (.imul, 1) := by decide +kernel
theorem dX8_keeps_123 : decode cX8_keeps 123 = .ok (.iload_n 2, 1) := by decide +kernel
theorem dX8_keeps_124 : decode cX8_keeps 124 = .ok (.iadd, 1) := by decide +kernel
theorem dX8_keeps_125 : decode cX8_keeps 125 = .ok (.iaload, 1) := by decide +kernel
theorem dX8_keeps_126 : decode cX8_keeps 126 = .ok (.invokevirtual 129, 3) := by decide +kernel
theorem dX8_keeps_129 : decode cX8_keeps 129 = .ok (.iastore, 1) := by decide +kernel
theorem dX8_keeps_130 : decode cX8_keeps 130 = .ok (.iinc 6 1, 3) := by decide +kernel
theorem dX8_keeps_133 : decode cX8_keeps 133 = .ok (.goto (-51), 3) := by decide +kernel
theorem dX8_keeps_136 : decode cX8_keeps 136 = .ok (.iinc 3 1, 3) := by decide +kernel
theorem dX8_keeps_139 : decode cX8_keeps 139 = .ok (.goto (-137), 3) := by decide +kernel
theorem dX8_keeps_142 : decode cX8_keeps 142 = .ok (.return_, 1) := by decide +kernel
theorem dX8_renders_0 : decode cX8_renders 0 = .ok (.aload_n 0, 1) := by decide +kernel
theorem dX8_renders_1 : decode cX8_renders 1 = .ok (.iload_n 1, 1) := by decide +kernel
theorem dX8_renders_2 : decode cX8_renders 2 = .ok (.iload_n 2, 1) := by decide +kernel
theorem dX8_renders_3 : decode cX8_renders 3 = .ok (.invokevirtual 165, 3) := by decide +kernel
theorem dX8_renders_6 : decode cX8_renders 6 = .ok (.aload_n 0, 1) := by decide +kernel
theorem dX8_renders_7 : decode cX8_renders 7 = .ok (.getfield 50, 3) := by decide +kernel
theorem dX8_renders_10 : decode cX8_renders 10 = .ok (.bipush 40, 2) := by decide +kernel
theorem dX8_renders_12 : decode cX8_renders 12 = .ok (.iload_n 1, 1) := by decide +kernel
theorem dX8_renders_13 : decode cX8_renders 13 = .ok (.imul, 1) := by decide +kernel
theorem dX8_renders_14 : decode cX8_renders 14 = .ok (.iload_n 2, 1) := by decide +kernel
theorem dX8_renders_15 : decode cX8_renders 15 = .ok (.iadd, 1) := by decide +kernel
theorem dX8_renders_16 : decode cX8_renders 16 = .ok (.dup2, 1) := by decide +kernel
theorem dX8_renders_17 : decode cX8_renders 17 = .ok (.iaload, 1) := by decide +kernel
theorem dX8_renders_18 : decode cX8_renders 18 = .ok (.iconst 1, 1) := by decide +kernel
theorem dX8_renders_19 : decode cX8_renders 19 = .ok (.iadd, 1) := by decide +kernel
theorem dX8_renders_20 : decode cX8_renders 20 = .ok (.iastore, 1) := by decide +kernel
theorem dX8_renders_21 : decode cX8_renders 21 = .ok (.aload_n 0, 1) := by decide +kernel
theorem dX8_renders_22 : decode cX8_renders 22 = .ok (.dup, 1) := by decide +kernel
theorem dX8_renders_23 : decode cX8_renders 23 = .ok (.getfield 168, 3) := by decide +kernel
theorem dX8_renders_26 : decode cX8_renders 26 = .ok (.iconst 1, 1) := by decide +kernel
theorem dX8_renders_27 : decode cX8_renders 27 = .ok (.iadd, 1) := by decide +kernel
theorem dX8_renders_28 : decode cX8_renders 28 = .ok (.putfield 168, 3) := by decide +kernel
theorem dX8_renders_31 : decode cX8_renders 31 = .ok (.return_, 1) := by decide +kernel
theorem dX8_render_0 : decode cX8_render 0 = .ok (.aload_n 0, 1) := by decide +kernel
theorem dX8_render_1 : decode cX8_render 1 = .ok (.aload_n 0, 1) := by decide +kernel
theorem dX8_render_2 : decode cX8_render 2 = .ok (.iload_n 1, 1) := by decide +kernel
theorem dX8_render_3 : decode cX8_render 3 = .ok (.invokevirtual 88, 3) := by decide +kernel
theorem dX8_render_6 : decode cX8_render 6 = .ok (.ifCond .eq 7, 3) := by decide +kernel
theorem dX8_render_9 : decode cX8_render 9 = .ok (.iconst 0, 1) := by decide +kernel
theorem dX8_render_10 : decode cX8_render 10 = .ok (.goto 4, 3) := by decide +kernel
theorem dX8_render_13 : decode cX8_render 13 = .ok (.iconst 1, 1) := by decide +kernel
theorem dX8_render_14 : decode cX8_render 14 = .ok (.invokevirtual 112, 3) := by decide +kernel
theorem dX8_render_17 : decode cX8_render 17 = .ok (.ifCond .ne 5, 3) := by decide +kernel
theorem dX8_render_20 : decode cX8_render 20 = .ok (.iconst 0, 1) := by decide +kernel
theorem dX8_render_21 : decode cX8_render 21 = .ok (.ireturn, 1) := by decide +kernel
theorem dX8_render_22 : decode cX8_render 22 = .ok (.iconst 0, 1) := by decide +kernel
theorem dX8_render_23 : decode cX8_render 23 = .ok (.istore_n 2, 1) := by decide +kernel
theorem dX8_render_24 : decode cX8_render 24 = .ok (.iconst 0, 1) := by decide +kernel
theorem dX8_render_25 : decode cX8_render 25 = .ok (.istore_n 3, 1) := by decide +kernel
theorem dX8_render_26 : decode cX8_render 26 = .ok (.iload_n 3, 1) := by decide +kernel
theorem dX8_render_27 : decode cX8_render 27 = .ok (.aload_n 0, 1) := by decide +kernel
theorem dX8_render_28 : decode cX8_render 28 = .ok (.getfield 31, 3) := by decide +kernel
theorem dX8_render_31 : decode cX8_render 31 = .ok (.iload_n 1, 1) := by decide +kernel
theorem dX8_render_32 : decode cX8_render 32 = .ok (.iaload, 1) := by decide +kernel
theorem dX8_render_33 : decode cX8_render 33 = .ok (.if_icmp .ge 36, 3) := by decide +kernel
theorem dX8_render_36 : decode cX8_render 36 = .ok (.aload_n 0, 1) := by decide +kernel
theorem dX8_render_37 : decode cX8_render 37 = .ok (.iload_n 1, 1) := by decide +kernel
theorem dX8_render_38 : decode cX8_render 38 = .ok (.iload_n 3, 1) := by decide +kernel
theorem dX8_render_39 : decode cX8_render 39 = .ok (.invokevirtual 171, 3) := by decide +kernel
theorem dX8_render_42 : decode cX8_render 42 = .ok (.ifCond .eq 15, 3) := by decide +kernel
theorem dX8_render_45 : decode cX8_render 45 = .ok (.aload_n 0, 1) := by decide +kernel
theorem dX8_render_46 : decode cX8_render 46 = .ok (.iload_n 1, 1) := by decide +kernel
theorem dX8_render_47 : decode cX8_render 47 = .ok (.iload_n 3, 1) := by decide +kernel
theorem dX8_render_48 : decode cX8_render 48 = .ok (.invokevirtual 174, 3) := by decide +kernel
theorem dX8_render_51 : decode cX8_render 51 = .ok (.iinc 2 1, 3) := by decide +kernel
theorem dX8_render_54 : decode cX8_render 54 = .ok (.goto 9, 3) := by decide +kernel
theorem dX8_render_57 : decode cX8_render 57 = .ok (.aload_n 0, 1) := by decide +kernel
theorem dX8_render_58 : decode cX8_render 58 = .ok (.iload_n 1, 1) := by decide +kernel
theorem dX8_render_59 : decode cX8_render 59 = .ok (.iload_n 3, 1) := by decide +kernel
theorem dX8_render_60 : decode cX8_render 60 = .ok (.invokevirtual 165, 3) := by decide +kernel
theorem dX8_render_63 : decode cX8_render 63 = .ok (.iinc 3 1, 3) := by decide +kernel
theorem dX8_render_66 : decode cX8_render 66 = .ok (.goto (-40), 3) := by decide +kernel
theorem dX8_render_69 : decode cX8_render 69 = .ok (.iload_n 2, 1) := by decide +kernel
theorem dX8_render_70 : decode cX8_render 70 = .ok (.ireturn, 1) := by decide +kernel
theorem dX8_renderOne_0 : decode cX8_renderOne 0 = .ok (.aload_n 0, 1) := by decide +kernel
theorem dX8_renderOne_1 : decode cX8_renderOne 1 = .ok (.aload_n 0, 1) := by decide +kernel
theorem dX8_renderOne_2 : decode cX8_renderOne 2 = .ok (.iload_n 1, 1) := by decide +kernel
theorem dX8_renderOne_3 : decode cX8_renderOne 3 = .ok (.iload_n 2, 1) := by decide +kernel
theorem dX8_renderOne_4 : decode cX8_renderOne 4 = .ok (.invokevirtual 141, 3) := by decide +kernel
theorem dX8_renderOne_7 : decode cX8_renderOne 7 = .ok (.ifCond .eq 7, 3) := by decide +kernel
theorem dX8_renderOne_10 : decode cX8_renderOne 10 = .ok (.iconst 0, 1) := by decide +kernel
theorem dX8_renderOne_11 : decode cX8_renderOne 11 = .ok (.goto 4, 3) := by decide +kernel
theorem dX8_renderOne_14 : decode cX8_renderOne 14 = .ok (.iconst 1, 1) := by decide +kernel
theorem dX8_renderOne_15 : decode cX8_renderOne 15 = .ok (.invokevirtual 112, 3) := by decide +kernel
theorem dX8_renderOne_18 : decode cX8_renderOne 18 = .ok (.ifCond .ne 5, 3) := by decide +kernel
theorem dX8_renderOne_21 : decode cX8_renderOne 21 = .ok (.iconst 0, 1) := by decide +kernel
theorem dX8_renderOne_22 : decode cX8_renderOne 22 = .ok (.ireturn, 1) := by decide +kernel
theorem dX8_renderOne_23 : decode cX8_renderOne 23 = .ok (.aload_n 0, 1) := by decide +kernel
theorem dX8_renderOne_24 : decode cX8_renderOne 24 = .ok (.iload_n 1, 1) := by decide +kernel
theorem dX8_renderOne_25 : decode cX8_renderOne 25 = .ok (.iload_n 2, 1) := by decide +kernel
theorem dX8_renderOne_26 : decode cX8_renderOne 26 = .ok (.invokevirtual 171, 3) := by decide +kernel
theorem dX8_renderOne_29 : decode cX8_renderOne 29 = .ok (.istore_n 3, 1) := by decide +kernel
theorem dX8_renderOne_30 : decode cX8_renderOne 30 = .ok (.aload_n 0, 1) := by decide +kernel
theorem dX8_renderOne_31 : decode cX8_renderOne 31 = .ok (.iload_n 1, 1) := by decide +kernel
theorem dX8_renderOne_32 : decode cX8_renderOne 32 = .ok (.iload_n 2, 1) := by decide +kernel
theorem dX8_renderOne_33 : decode cX8_renderOne 33 = .ok (.invokevirtual 174, 3) := by decide +kernel
theorem dX8_renderOne_36 : decode cX8_renderOne 36 = .ok (.iload_n 3, 1) := by decide +kernel
theorem dX8_renderOne_37 : decode cX8_renderOne 37 = .ok (.ireturn, 1) := by decide +kernel
theorem dX8_needed_0 : decode cX8_needed 0 = .ok (.iconst 0, 1) := by decide +kernel
theorem dX8_needed_1 : decode cX8_needed 1 = .ok (.istore_n 2, 1) := by decide +kernel
theorem dX8_needed_2 : decode cX8_needed 2 = .ok (.iconst 0, 1) := by decide +kernel
theorem dX8_needed_3 : decode cX8_needed 3 = .ok (.istore_n 3, 1) := by decide +kernel
theorem dX8_needed_4 : decode cX8_needed 4 = .ok (.iload_n 3, 1) := by decide +kernel
theorem dX8_needed_5 : decode cX8_needed 5 = .ok (.aload_n 0, 1) := by decide +kernel
theorem dX8_needed_6 : decode cX8_needed 6 = .ok (.getfield 31, 3) := by decide +kernel
theorem dX8_needed_9 : decode cX8_needed 9 = .ok (.iload_n 1, 1) := by decide +kernel
theorem dX8_needed_10 : decode cX8_needed 10 = .ok (.iaload, 1) := by decide +kernel
theorem dX8_needed_11 : decode cX8_needed 11 = .ok (.if_icmp .ge 26, 3) := by decide +kernel
theorem dX8_needed_14 : decode cX8_needed 14 = .ok (.iload_n 2, 1) := by decide +kernel
theorem dX8_needed_15 : decode cX8_needed 15 = .ok (.aload_n 0, 1) := by decide +kernel
theorem dX8_needed_16 : decode cX8_needed 16 = .ok (.iload_n 1, 1) := by decide +kernel
theorem dX8_needed_17 : decode cX8_needed 17 = .ok (.iload_n 3, 1) := by decide +kernel
theorem dX8_needed_18 : decode cX8_needed 18 = .ok (.invokevirtual 171, 3) := by decide +kernel
theorem dX8_needed_21 : decode cX8_needed 21 = .ok (.ifCond .eq 7, 3) := by decide +kernel
theorem dX8_needed_24 : decode cX8_needed 24 = .ok (.iconst 1, 1) := by decide +kernel
theorem dX8_needed_25 : decode cX8_needed 25 = .ok (.goto 4, 3) := by decide +kernel
theorem dX8_needed_28 : decode cX8_needed 28 = .ok (.iconst 0, 1) := by decide +kernel
theorem dX8_needed_29 : decode cX8_needed 29 = .ok (.iadd, 1) := by decide +kernel
theorem dX8_needed_30 : decode cX8_needed 30 = .ok (.istore_n 2, 1) := by decide +kernel
theorem dX8_needed_31 : decode cX8_needed 31 = .ok (.iinc 3 1, 3) := by decide +kernel
theorem dX8_needed_34 : decode cX8_needed 34 = .ok (.goto (-30), 3) := by decide +kernel
theorem dX8_needed_37 : decode cX8_needed 37 = .ok (.iload_n 2, 1) := by decide +kernel
theorem dX8_needed_38 : decode cX8_needed 38 = .ok (.ireturn, 1) := by decide +kernel
theorem dX8_needs_0 : decode cX8_needs 0 = .ok (.aload_n 0, 1) := by decide +kernel
theorem dX8_needs_1 : decode cX8_needs 1 = .ok (.aload_n 0, 1) := by decide +kernel
theorem dX8_needs_2 : decode cX8_needs 2 = .ok (.iload_n 1, 1) := by decide +kernel
theorem dX8_needs_3 : decode cX8_needs 3 = .ok (.invokevirtual 88, 3) := by decide +kernel
theorem dX8_needs_6 : decode cX8_needs 6 = .ok (.ifCond .eq 7, 3) := by decide +kernel
theorem dX8_needs_9 : decode cX8_needs 9 = .ok (.iconst 0, 1) := by decide +kernel
theorem dX8_needs_10 : decode cX8_needs 10 = .ok (.goto 4, 3) := by decide +kernel
theorem dX8_needs_13 : decode cX8_needs 13 = .ok (.iconst 1, 1) := by decide +kernel
theorem dX8_needs_14 : decode cX8_needs 14 = .ok (.invokevirtual 112, 3) := by decide +kernel
theorem dX8_needs_17 : decode cX8_needs 17 = .ok (.ifCond .eq 11, 3) := by decide +kernel
theorem dX8_needs_20 : decode cX8_needs 20 = .ok (.aload_n 0, 1) := by decide +kernel
theorem dX8_needs_21 : decode cX8_needs 21 = .ok (.iload_n 1, 1) := by decide +kernel
theorem dX8_needs_22 : decode cX8_needs 22 = .ok (.invokevirtual 177, 3) := by decide +kernel
theorem dX8_needs_25 : decode cX8_needs 25 = .ok (.goto 4, 3) := by decide +kernel
theorem dX8_needs_28 : decode cX8_needs 28 = .ok (.iconst 0, 1) := by decide +kernel
theorem dX8_needs_29 : decode cX8_needs 29 = .ok (.ireturn, 1) := by decide +kernel
theorem dX8_isMixed_0 : decode cX8_isMixed 0 = .ok (.iconst (-1), 1) := by decide +kernel
theorem dX8_isMixed_1 : decode cX8_isMixed 1 = .ok (.istore_n 3, 1) := by decide +kernel
theorem dX8_isMixed_2 : decode cX8_isMixed 2 = .ok (.iconst 0, 1) := by decide +kernel
theorem dX8_isMixed_3 : decode cX8_isMixed 3 = .ok (.istore 4, 2) := by decide +kernel
theorem dX8_isMixed_5 : decode cX8_isMixed 5 = .ok (.iconst 0, 1) := by decide +kernel
theorem dX8_isMixed_6 : decode cX8_isMixed 6 = .ok (.istore 5, 2) := by decide +kernel
theorem dX8_isMixed_8 : decode cX8_isMixed 8 = .ok (.iload 5, 2) := by decide +kernel
theorem dX8_isMixed_10 : decode cX8_isMixed 10 = .ok (.aload_n 0, 1) := by decide +kernel
theorem dX8_isMixed_11 : decode cX8_isMixed 11 = .ok (.getfield 31, 3) := by decide +kernel
theorem dX8_isMixed_14 : decode cX8_isMixed 14 = .ok (.iload_n 1, 1) := by decide +kernel
theorem dX8_isMixed_15 : decode cX8_isMixed 15 = .ok (.iaload, 1) := by decide +kernel
theorem dX8_isMixed_16 : decode cX8_isMixed 16 = .ok (.if_icmp .ge 87, 3) := by decide +kernel
theorem dX8_isMixed_19 : decode cX8_isMixed 19 = .ok (.bipush 40, 2) := by decide +kernel
theorem dX8_isMixed_21 : decode cX8_isMixed 21 = .ok (.iload_n 1, 1) := by decide +kernel
theorem dX8_isMixed_22 : decode cX8_isMixed 22 = .ok (.imul, 1) := by decide +kernel
theorem dX8_isMixed_23 : decode cX8_isMixed 23 = .ok (.iload 5, 2) := by decide +kernel
theorem dX8_isMixed_25 : decode cX8_isMixed 25 = .ok (.iadd, 1) := by decide +kernel
theorem dX8_isMixed_26 : decode cX8_isMixed 26 = .ok (.istore 6, 2) := by decide +kernel
theorem dX8_isMixed_28 : decode cX8_isMixed 28 = .ok (.aload_n 0, 1) := by decide +kernel
theorem dX8_isMixed_29 : decode cX8_isMixed 29 = .ok (.getfield 50, 3) := by decide +kernel
theorem dX8_isMixed_32 : decode cX8_isMixed 32 = .ok (.iload 6, 2) := by decide +kernel
theorem dX8_isMixed_34 : decode cX8_isMixed 34 = .ok (.iaload, 1) := by decide +kernel
theorem dX8_isMixed_35 : decode cX8_isMixed 35 = .ok (.ifCond .ne 7, 3) := by decide +kernel
theorem dX8_isMixed_38 : decode cX8_isMixed 38 = .ok (.iconst (-1), 1) := by decide +kernel
theorem dX8_isMixed_39 : decode cX8_isMixed 39 = .ok (.goto 15, 3) := by decide +kernel
theorem dX8_isMixed_42 : decode cX8_isMixed 42 = .ok (.aload_n 0, 1) := by decide +kernel
theorem dX8_isMixed_43 : decode cX8_isMixed 43 = .ok (.getfield 53, 3) := by decide +kernel
theorem dX8_isMixed_46 : decode cX8_isMixed 46 = .ok (.bipush 8, 2) := by decide +kernel
theorem dX8_isMixed_48 : decode cX8_isMixed 48 = .ok (.iload 6, 2) := by decide +kernel
theorem dX8_isMixed_50 : decode cX8_isMixed 50 = .ok (.imul, 1) := by decide +kernel
theorem dX8_isMixed_51 : decode cX8_isMixed 51 = .ok (.iload_n 2, 1) := by decide +kernel
theorem dX8_isMixed_52 : decode cX8_isMixed 52 = .ok (.iadd, 1) := by decide +kernel
theorem dX8_isMixed_53 : decode cX8_isMixed 53 = .ok (.iaload, 1) := by decide +kernel
theorem dX8_isMixed_54 : decode cX8_isMixed 54 = .ok (.istore 7, 2) := by decide +kernel
theorem dX8_isMixed_56 : decode cX8_isMixed 56 = .ok (.iload 4, 2) := by decide +kernel
theorem dX8_isMixed_58 : decode cX8_isMixed 58 = .ok (.ifCond .ne 20, 3) := by decide +kernel
theorem dX8_isMixed_61 : decode cX8_isMixed 61 = .ok (.iload 7, 2) := by decide +kernel
theorem dX8_isMixed_63 : decode cX8_isMixed 63 = .ok (.iconst (-1), 1) := by decide +kernel
theorem dX8_isMixed_64 : decode cX8_isMixed 64 = .ok (.if_icmp .eq 18, 3) := by decide +kernel
theorem dX8_isMixed_67 : decode cX8_isMixed 67 = .ok (.iload_n 3, 1) := by decide +kernel
theorem dX8_isMixed_68 : decode cX8_isMixed 68 = .ok (.iconst (-1), 1) := by decide +kernel
theorem dX8_isMixed_69 : decode cX8_isMixed 69 = .ok (.if_icmp .eq 13, 3) := by decide +kernel
theorem dX8_isMixed_72 : decode cX8_isMixed 72 = .ok (.iload 7, 2) := by decide +kernel
theorem dX8_isMixed_74 : decode cX8_isMixed 74 = .ok (.iload_n 3, 1) := by decide +kernel
theorem dX8_isMixed_75 : decode cX8_isMixed 75 = .ok (.if_icmp .eq 7, 3) := by decide +kernel
theorem dX8_isMixed_78 : decode cX8_isMixed 78 = .ok (.iconst 1, 1) := by decide +kernel
theorem dX8_isMixed_79 : decode cX8_isMixed 79 = .ok (.goto 4, 3) := by decide +kernel
theorem dX8_isMixed_82 : decode cX8_isMixed 82 = .ok (.iconst 0, 1) := by decide +kernel
theorem dX8_isMixed_83 : decode cX8_isMixed 83 = .ok (.istore 4, 2) := by decide +kernel
theorem dX8_isMixed_85 : decode cX8_isMixed 85 = .ok (.iload_n 3, 1) := by decide +kernel
theorem dX8_isMixed_86 : decode cX8_isMixed 86 = .ok (.iconst (-1), 1) := by decide +kernel
theorem dX8_isMixed_87 : decode cX8_isMixed 87 = .ok (.if_icmp .ne 8, 3) := by decide +kernel
theorem dX8_isMixed_90 : decode cX8_isMixed 90 = .ok (.iload 7, 2) := by decide +kernel
theorem dX8_isMixed_92 : decode cX8_isMixed 92 = .ok (.goto 4, 3) := by decide +kernel
theorem dX8_isMixed_95 : decode cX8_isMixed 95 = .ok (.iload_n 3, 1) := by decide +kernel
theorem dX8_isMixed_96 : decode cX8_isMixed 96 = .ok (.istore_n 3, 1) := by decide +kernel
theorem dX8_isMixed_97 : decode cX8_isMixed 97 = .ok (.iinc 5 1, 3) := by decide +kernel
theorem dX8_isMixed_100 : decode cX8_isMixed 100 = .ok (.goto (-92), 3) := by decide +kernel
theorem dX8_isMixed_103 : decode cX8_isMixed 103 = .ok (.iload 4, 2) := by decide +kernel
theorem dX8_isMixed_105 : decode cX8_isMixed 105 = .ok (.ireturn, 1) := by decide +kernel
theorem dX8_mixed_0 : decode cX8_mixed 0 = .ok (.iconst 0, 1) := by decide +kernel
theorem dX8_mixed_1 : decode cX8_mixed 1 = .ok (.istore_n 2, 1) := by decide +kernel
theorem dX8_mixed_2 : decode cX8_mixed 2 = .ok (.iconst 0, 1) := by decide +kernel
theorem dX8_mixed_3 : decode cX8_mixed 3 = .ok (.istore_n 3, 1) := by decide +kernel
theorem dX8_mixed_4 : decode cX8_mixed 4 = .ok (.iload_n 3, 1) := by decide +kernel
theorem dX8_mixed_5 : decode cX8_mixed 5 = .ok (.aload_n 0, 1) := by decide +kernel
theorem dX8_mixed_6 : decode cX8_mixed 6 = .ok (.getfield 74, 3) := by decide +kernel
theorem dX8_mixed_9 : decode cX8_mixed 9 = .ok (.if_icmp .ge 55, 3) := by decide +kernel
theorem dX8_mixed_12 : decode cX8_mixed 12 = .ok (.bipush 8, 2) := by decide +kernel
theorem dX8_mixed_14 : decode cX8_mixed 14 = .ok (.iload_n 1, 1) := by decide +kernel
theorem dX8_mixed_15 : decode cX8_mixed 15 = .ok (.imul, 1) := by decide +kernel
theorem dX8_mixed_16 : decode cX8_mixed 16 = .ok (.iload_n 3, 1) := by decide +kernel
theorem dX8_mixed_17 : decode cX8_mixed 17 = .ok (.iadd, 1) := by decide +kernel
theorem dX8_mixed_18 : decode cX8_mixed 18 = .ok (.istore 4, 2) := by decide +kernel
theorem dX8_mixed_20 : decode cX8_mixed 20 = .ok (.iload_n 2, 1) := by decide +kernel
theorem dX8_mixed_21 : decode cX8_mixed 21 = .ok (.aload_n 0, 1) := by decide +kernel
theorem dX8_mixed_22 : decode cX8_mixed 22 = .ok (.getfield 34, 3) := by decide +kernel
theorem dX8_mixed_25 : decode cX8_mixed 25 = .ok (.iload 4, 2) := by decide +kernel
theorem dX8_mixed_27 : decode cX8_mixed 27 = .ok (.baload, 1) := by decide +kernel
theorem dX8_mixed_28 : decode cX8_mixed 28 = .ok (.ifCond .eq 27, 3) := by decide +kernel
theorem dX8_mixed_31 : decode cX8_mixed 31 = .ok (.aload_n 0, 1) := by decide +kernel
theorem dX8_mixed_32 : decode cX8_mixed 32 = .ok (.getfield 38, 3) := by decide +kernel
theorem dX8_mixed_35 : decode cX8_mixed 35 = .ok (.iload 4, 2) := by decide +kernel
theorem dX8_mixed_37 : decode cX8_mixed 37 = .ok (.iaload, 1) := by decide +kernel
theorem dX8_mixed_38 : decode cX8_mixed 38 = .ok (.iconst (-1), 1) := by decide +kernel
theorem dX8_mixed_39 : decode cX8_mixed 39 = .ok (.if_icmp .ne 16, 3) := by decide +kernel
theorem dX8_mixed_42 : decode cX8_mixed 42 = .ok (.aload_n 0, 1) := by decide +kernel
theorem dX8_mixed_43 : decode cX8_mixed 43 = .ok (.iload_n 1, 1) := by decide +kernel
theorem dX8_mixed_44 : decode cX8_mixed 44 = .ok (.iload_n 3, 1) := by decide +kernel
theorem dX8_mixed_45 : decode cX8_mixed 45 = .ok (.invokevirtual 180, 3) := by decide +kernel
theorem dX8_mixed_48 : decode cX8_mixed 48 = .ok (.ifCond .eq 7, 3) := by decide +kernel
theorem dX8_mixed_51 : decode cX8_mixed 51 = .ok (.iconst 1, 1) := by decide +kernel
theorem dX8_mixed_52 : decode cX8_mixed 52 = .ok (.goto 4, 3) := by decide +kernel
theorem dX8_mixed_55 : decode cX8_mixed 55 = .ok (.iconst 0, 1) := by decide +kernel
theorem dX8_mixed_56 : decode cX8_mixed 56 = .ok (.iadd, 1) := by decide +kernel
theorem dX8_mixed_57 : decode cX8_mixed 57 = .ok (.istore_n 2, 1) := by decide +kernel
theorem dX8_mixed_58 : decode cX8_mixed 58 = .ok (.iinc 3 1, 3) := by decide +kernel
theorem dX8_mixed_61 : decode cX8_mixed 61 = .ok (.goto (-57), 3) := by decide +kernel
theorem dX8_mixed_64 : decode cX8_mixed 64 = .ok (.iload_n 2, 1) := by decide +kernel
theorem dX8_mixed_65 : decode cX8_mixed 65 = .ok (.ireturn, 1) := by decide +kernel
theorem dX8_mixes_0 : decode cX8_mixes 0 = .ok (.aload_n 0, 1) := by decide +kernel
theorem dX8_mixes_1 : decode cX8_mixes 1 = .ok (.aload_n 0, 1) := by decide +kernel
theorem dX8_mixes_2 : decode cX8_mixes 2 = .ok (.iload_n 1, 1) := by decide +kernel
theorem dX8_mixes_3 : decode cX8_mixes 3 = .ok (.invokevirtual 88, 3) := by decide +kernel
theorem dX8_mixes_6 : decode cX8_mixes 6 = .ok (.ifCond .eq 7, 3) := by decide +kernel
theorem dX8_mixes_9 : decode cX8_mixes 9 = .ok (.iconst 0, 1) := by decide +kernel
theorem dX8_mixes_10 : decode cX8_mixes 10 = .ok (.goto 4, 3) := by decide +kernel
theorem dX8_mixes_13 : decode cX8_mixes 13 = .ok (.iconst 1, 1) := by decide +kernel
theorem dX8_mixes_14 : decode cX8_mixes 14 = .ok (.invokevirtual 112, 3) := by decide +kernel
theorem dX8_mixes_17 : decode cX8_mixes 17 = .ok (.ifCond .eq 11, 3) := by decide +kernel
theorem dX8_mixes_20 : decode cX8_mixes 20 = .ok (.aload_n 0, 1) := by decide +kernel
theorem dX8_mixes_21 : decode cX8_mixes 21 = .ok (.iload_n 1, 1) := by decide +kernel
theorem dX8_mixes_22 : decode cX8_mixes 22 = .ok (.invokevirtual 183, 3) := by decide +kernel
theorem dX8_mixes_25 : decode cX8_mixes 25 = .ok (.goto 4, 3) := by decide +kernel
theorem dX8_mixes_28 : decode cX8_mixes 28 = .ok (.iconst 0, 1) := by decide +kernel
theorem dX8_mixes_29 : decode cX8_mixes 29 = .ok (.ireturn, 1) := by decide +kernel
theorem dX8_bonesAt_0 : decode cX8_bonesAt 0 = .ok (.iconst 0, 1) := by decide +kernel
theorem dX8_bonesAt_1 : decode cX8_bonesAt 1 = .ok (.istore_n 3, 1) := by decide +kernel
theorem dX8_bonesAt_2 : decode cX8_bonesAt 2 = .ok (.iconst 0, 1) := by decide +kernel
theorem dX8_bonesAt_3 : decode cX8_bonesAt 3 = .ok (.istore 4, 2) := by decide +kernel
theorem dX8_bonesAt_5 : decode cX8_bonesAt 5 = .ok (.iload 4, 2) := by decide +kernel
theorem dX8_bonesAt_7 : decode cX8_bonesAt 7 = .ok (.aload_n 0, 1) := by decide +kernel
theorem dX8_bonesAt_8 : decode cX8_bonesAt 8 = .ok (.getfield 74, 3) := by decide +kernel
theorem dX8_bonesAt_11 : decode cX8_bonesAt 11 = .ok (.if_icmp .ge 20, 3) := by decide +kernel
theorem dX8_bonesAt_14 : decode cX8_bonesAt 14 = .ok (.iload_n 3, 1) := by decide +kernel
theorem dX8_bonesAt_15 : decode cX8_bonesAt 15 = .ok (.aload_n 0, 1) := by decide +kernel
theorem dX8_bonesAt_16 : decode cX8_bonesAt 16 = .ok (.iload_n 1, 1) := by decide +kernel
theorem dX8_bonesAt_17 : decode cX8_bonesAt 17 = .ok (.iload_n 2, 1) := by decide +kernel
theorem dX8_bonesAt_18 : decode cX8_bonesAt 18 = .ok (.iload 4, 2) := by decide +kernel
theorem dX8_bonesAt_20 : decode cX8_bonesAt 20 = .ok (.invokevirtual 159, 3) := by decide +kernel
theorem dX8_bonesAt_23 : decode cX8_bonesAt 23 = .ok (.iadd, 1) := by decide +kernel
theorem dX8_bonesAt_24 : decode cX8_bonesAt 24 = .ok (.istore_n 3, 1) := by decide +kernel
theorem dX8_bonesAt_25 : decode cX8_bonesAt 25 = .ok (.iinc 4 1, 3) := by decide +kernel
theorem dX8_bonesAt_28 : decode cX8_bonesAt 28 = .ok (.goto (-23), 3) := by decide +kernel
theorem dX8_bonesAt_31 : decode cX8_bonesAt 31 = .ok (.iload_n 3, 1) := by decide +kernel
theorem dX8_bonesAt_32 : decode cX8_bonesAt 32 = .ok (.ireturn, 1) := by decide +kernel
theorem dX8_toldFrame_0 : decode cX8_toldFrame 0 = .ok (.bipush 40, 2) := by decide +kernel
theorem dX8_toldFrame_2 : decode cX8_toldFrame 2 = .ok (.iload_n 1, 1) := by decide +kernel
theorem dX8_toldFrame_3 : decode cX8_toldFrame 3 = .ok (.imul, 1) := by decide +kernel
theorem dX8_toldFrame_4 : decode cX8_toldFrame 4 = .ok (.iload_n 2, 1) := by decide +kernel
theorem dX8_toldFrame_5 : decode cX8_toldFrame 5 = .ok (.iadd, 1) := by decide +kernel
theorem dX8_toldFrame_6 : decode cX8_toldFrame 6 = .ok (.istore 4, 2) := by decide +kernel
theorem dX8_toldFrame_8 : decode cX8_toldFrame 8 = .ok (.iload_n 3, 1) := by decide +kernel
theorem dX8_toldFrame_9 : decode cX8_toldFrame 9 = .ok (.tableswitch 88 0 4 #[35, 43, 59, 74, 81], 35) := by decide +kernel
theorem dX8_toldFrame_44 : decode cX8_toldFrame 44 = .ok (.aload_n 0, 1) := by decide +kernel
theorem dX8_toldFrame_45 : decode cX8_toldFrame 45 = .ok (.getfield 47, 3) := by decide +kernel
theorem dX8_toldFrame_48 : decode cX8_toldFrame 48 = .ok (.iload 4, 2) := by decide +kernel
theorem dX8_toldFrame_50 : decode cX8_toldFrame 50 = .ok (.iaload, 1) := by decide +kernel
theorem dX8_toldFrame_51 : decode cX8_toldFrame 51 = .ok (.ireturn, 1) := by decide +kernel
theorem dX8_toldFrame_52 : decode cX8_toldFrame 52 = .ok (.aload_n 0, 1) := by decide +kernel
theorem dX8_toldFrame_53 : decode cX8_toldFrame 53 = .ok (.getfield 50, 3) := by decide +kernel
theorem dX8_toldFrame_56 : decode cX8_toldFrame 56 = .ok (.iload 4, 2) := by decide +kernel
theorem dX8_toldFrame_58 : decode cX8_toldFrame 58 = .ok (.iaload, 1) := by decide +kernel
theorem dX8_toldFrame_59 : decode cX8_toldFrame 59 = .ok (.ifCond .le 7, 3) := by decide +kernel
theorem dX8_toldFrame_62 : decode cX8_toldFrame 62 = .ok (.iconst 1, 1) := by decide +kernel
theorem dX8_toldFrame_63 : decode cX8_toldFrame 63 = .ok (.goto 4, 3) := by decide +kernel
theorem dX8_toldFrame_66 : decode cX8_toldFrame 66 = .ok (.iconst 0, 1) := by decide +kernel
theorem dX8_toldFrame_67 : decode cX8_toldFrame 67 = .ok (.ireturn, 1) := by decide +kernel
theorem dX8_toldFrame_68 : decode cX8_toldFrame 68 = .ok (.aload_n 0, 1) := by decide +kernel
theorem dX8_toldFrame_69 : decode cX8_toldFrame 69 = .ok (.iload_n 1, 1) := by decide +kernel
theorem dX8_toldFrame_70 : decode cX8_toldFrame 70 = .ok (.iload_n 2, 1) := by decide +kernel
theorem dX8_toldFrame_71 : decode cX8_toldFrame 71 = .ok (.invokevirtual 171, 3) := by decide +kernel
theorem dX8_toldFrame_74 : decode cX8_toldFrame 74 = .ok (.ifCond .eq 7, 3) := by decide +kernel
theorem dX8_toldFrame_77 : decode cX8_toldFrame 77 = .ok (.iconst 1, 1) := by decide +kernel
theorem dX8_toldFrame_78 : decode cX8_toldFrame 78 = .ok (.goto 4, 3) := by decide +kernel
theorem dX8_toldFrame_81 : decode cX8_toldFrame 81 = .ok (.iconst 0, 1) := by decide +kernel
theorem dX8_toldFrame_82 : decode cX8_toldFrame 82 = .ok (.ireturn, 1) := by decide +kernel
theorem dX8_toldFrame_83 : decode cX8_toldFrame 83 = .ok (.aload_n 0, 1) := by decide +kernel
theorem dX8_toldFrame_84 : decode cX8_toldFrame 84 = .ok (.iload_n 1, 1) := by decide +kernel
theorem dX8_toldFrame_85 : decode cX8_toldFrame 85 = .ok (.iload_n 2, 1) := by decide +kernel
theorem dX8_toldFrame_86 : decode cX8_toldFrame 86 = .ok (.invokevirtual 186, 3) := by decide +kernel
theorem dX8_toldFrame_89 : decode cX8_toldFrame 89 = .ok (.ireturn, 1) := by decide +kernel
theorem dX8_toldFrame_90 : decode cX8_toldFrame 90 = .ok (.aload_n 0, 1) := by decide +kernel
theorem dX8_toldFrame_91 : decode cX8_toldFrame 91 = .ok (.iload_n 1, 1) := by decide +kernel
theorem dX8_toldFrame_92 : decode cX8_toldFrame 92 = .ok (.iload_n 2, 1) := by decide +kernel
theorem dX8_toldFrame_93 : decode cX8_toldFrame 93 = .ok (.invokevirtual 153, 3) := by decide +kernel
theorem dX8_toldFrame_96 : decode cX8_toldFrame 96 = .ok (.ireturn, 1) := by decide +kernel
theorem dX8_toldFrame_97 : decode cX8_toldFrame 97 = .ok (.aload_n 0, 1) := by decide +kernel
theorem dX8_toldFrame_98 : decode cX8_toldFrame 98 = .ok (.getfield 50, 3) := by decide +kernel
theorem dX8_toldFrame_101 : decode cX8_toldFrame 101 = .ok (.iload 4, 2) := by decide +kernel
theorem dX8_toldFrame_103 : decode cX8_toldFrame 103 = .ok (.iaload, 1) := by decide +kernel
theorem dX8_toldFrame_104 : decode cX8_toldFrame 104 = .ok (.ireturn, 1) := by decide +kernel
theorem dX8_ofFrame_0 : decode cX8_ofFrame 0 = .ok (.aload_n 0, 1) := by decide +kernel
theorem dX8_ofFrame_1 : decode cX8_ofFrame 1 = .ok (.aload_n 0, 1) := by decide +kernel
theorem dX8_ofFrame_2 : decode cX8_ofFrame 2 = .ok (.iload_n 1, 1) := by decide +kernel
theorem dX8_ofFrame_3 : decode cX8_ofFrame 3 = .ok (.iload_n 2, 1) := by decide +kernel
theorem dX8_ofFrame_4 : decode cX8_ofFrame 4 = .ok (.invokevirtual 141, 3) := by decide +kernel
theorem dX8_ofFrame_7 : decode cX8_ofFrame 7 = .ok (.ifCond .eq 16, 3) := by decide +kernel
theorem dX8_ofFrame_10 : decode cX8_ofFrame 10 = .ok (.iload_n 3, 1) := by decide +kernel
theorem dX8_ofFrame_11 : decode cX8_ofFrame 11 = .ok (.iconst 0, 1) := by decide +kernel
theorem dX8_ofFrame_12 : decode cX8_ofFrame 12 = .ok (.iconst 5, 1) := by decide +kernel
theorem dX8_ofFrame_13 : decode cX8_ofFrame 13 = .ok (.invokestatic 81, 3) := by decide +kernel
theorem dX8_ofFrame_16 : decode cX8_ofFrame 16 = .ok (.ifCond .eq 7, 3) := by decide +kernel
theorem dX8_ofFrame_19 : decode cX8_ofFrame 19 = .ok (.iconst 0, 1) := by decide +kernel
theorem dX8_ofFrame_20 : decode cX8_ofFrame 20 = .ok (.goto 4, 3) := by decide +kernel
theorem dX8_ofFrame_23 : decode cX8_ofFrame 23 = .ok (.iconst 1, 1) := by decide +kernel
theorem dX8_ofFrame_24 : decode cX8_ofFrame 24 = .ok (.invokevirtual 112, 3) := by decide +kernel
theorem dX8_ofFrame_27 : decode cX8_ofFrame 27 = .ok (.ifCond .eq 13, 3) := by decide +kernel
theorem dX8_ofFrame_30 : decode cX8_ofFrame 30 = .ok (.aload_n 0, 1) := by decide +kernel
theorem dX8_ofFrame_31 : decode cX8_ofFrame 31 = .ok (.iload_n 1, 1) := by decide +kernel
theorem dX8_ofFrame_32 : decode cX8_ofFrame 32 = .ok (.iload_n 2, 1) := by decide +kernel
theorem dX8_ofFrame_33 : decode cX8_ofFrame 33 = .ok (.iload_n 3, 1) := by decide +kernel
theorem dX8_ofFrame_34 : decode cX8_ofFrame 34 = .ok (.invokevirtual 189, 3) := by decide +kernel
theorem dX8_ofFrame_37 : decode cX8_ofFrame 37 = .ok (.goto 4, 3) := by decide +kernel
theorem dX8_ofFrame_40 : decode cX8_ofFrame 40 = .ok (.iconst 0, 1) := by decide +kernel
theorem dX8_ofFrame_41 : decode cX8_ofFrame 41 = .ok (.ireturn, 1) := by decide +kernel
theorem dX8_kept_0 : decode cX8_kept 0 = .ok (.aload_n 0, 1) := by decide +kernel
theorem dX8_kept_1 : decode cX8_kept 1 = .ok (.aload_n 0, 1) := by decide +kernel
theorem dX8_kept_2 : decode cX8_kept 2 = .ok (.iload_n 1, 1) := by decide +kernel
theorem dX8_kept_3 : decode cX8_kept 3 = .ok (.iload_n 2, 1) := by decide +kernel
theorem dX8_kept_4 : decode cX8_kept 4 = .ok (.invokevirtual 141, 3) := by decide +kernel
theorem dX8_kept_7 : decode cX8_kept 7 = .ok (.ifCond .eq 15, 3) := by decide +kernel
theorem dX8_kept_10 : decode cX8_kept 10 = .ok (.aload_n 0, 1) := by decide +kernel
theorem dX8_kept_11 : decode cX8_kept 11 = .ok (.iload_n 3, 1) := by decide +kernel
theorem dX8_kept_12 : decode cX8_kept 12 = .ok (.invokevirtual 92, 3) := by decide +kernel
theorem dX8_kept_15 : decode cX8_kept 15 = .ok (.ifCond .eq 7, 3) := by decide +kernel
theorem dX8_kept_18 : decode cX8_kept 18 = .ok (.iconst 0, 1) := by decide +kernel
theorem dX8_kept_19 : decode cX8_kept 19 = .ok (.goto 4, 3) := by decide +kernel
theorem dX8_kept_22 : decode cX8_kept 22 = .ok (.iconst 1, 1) := by decide +kernel
theorem dX8_kept_23 : decode cX8_kept 23 = .ok (.invokevirtual 112, 3) := by decide +kernel
theorem dX8_kept_26 : decode cX8_kept 26 = .ok (.ifCond .ne 5, 3) := by decide +kernel
theorem dX8_kept_29 : decode cX8_kept 29 = .ok (.iconst 0, 1) := by decide +kernel
theorem dX8_kept_30 : decode cX8_kept 30 = .ok (.ireturn, 1) := by decide +kernel
theorem dX8_kept_31 : decode cX8_kept 31 = .ok (.bipush 40, 2) := by decide +kernel
theorem dX8_kept_33 : decode cX8_kept 33 = .ok (.iload_n 1, 1) := by decide +kernel
theorem dX8_kept_34 : decode cX8_kept 34 = .ok (.imul, 1) := by decide +kernel
theorem dX8_kept_35 : decode cX8_kept 35 = .ok (.iload_n 2, 1) := by decide +kernel
theorem dX8_kept_36 : decode cX8_kept 36 = .ok (.iadd, 1) := by decide +kernel
theorem dX8_kept_37 : decode cX8_kept 37 = .ok (.istore 4, 2) := by decide +kernel
theorem dX8_kept_39 : decode cX8_kept 39 = .ok (.aload_n 0, 1) := by decide +kernel
theorem dX8_kept_40 : decode cX8_kept 40 = .ok (.getfield 50, 3) := by decide +kernel
theorem dX8_kept_43 : decode cX8_kept 43 = .ok (.iload 4, 2) := by decide +kernel
theorem dX8_kept_45 : decode cX8_kept 45 = .ok (.iaload, 1) := by decide +kernel
theorem dX8_kept_46 : decode cX8_kept 46 = .ok (.ifCond .ne 7, 3) := by decide +kernel
theorem dX8_kept_49 : decode cX8_kept 49 = .ok (.iconst (-1), 1) := by decide +kernel
theorem dX8_kept_50 : decode cX8_kept 50 = .ok (.goto 15, 3) := by decide +kernel
theorem dX8_kept_53 : decode cX8_kept 53 = .ok (.aload_n 0, 1) := by decide +kernel
theorem dX8_kept_54 : decode cX8_kept 54 = .ok (.getfield 53, 3) := by decide +kernel
theorem dX8_kept_57 : decode cX8_kept 57 = .ok (.bipush 8, 2) := by decide +kernel
theorem dX8_kept_59 : decode cX8_kept 59 = .ok (.iload 4, 2) := by decide +kernel
theorem dX8_kept_61 : decode cX8_kept 61 = .ok (.imul, 1) := by decide +kernel
theorem dX8_kept_62 : decode cX8_kept 62 = .ok (.iload_n 3, 1) := by decide +kernel
theorem dX8_kept_63 : decode cX8_kept 63 = .ok (.iadd, 1) := by decide +kernel
theorem dX8_kept_64 : decode cX8_kept 64 = .ok (.iaload, 1) := by decide +kernel
theorem dX8_kept_65 : decode cX8_kept 65 = .ok (.ireturn, 1) := by decide +kernel
theorem dX8_countOf_0 : decode cX8_countOf 0 = .ok (.iload_n 1, 1) := by decide +kernel
theorem dX8_countOf_1 : decode cX8_countOf 1 = .ok (.ifCond .eq 13, 3) := by decide +kernel
theorem dX8_countOf_4 : decode cX8_countOf 4 = .ok (.iload_n 1, 1) := by decide +kernel
theorem dX8_countOf_5 : decode cX8_countOf 5 = .ok (.iconst 2, 1) := by decide +kernel
theorem dX8_countOf_6 : decode cX8_countOf 6 = .ok (.if_icmp .eq 8, 3) := by decide +kernel
theorem dX8_countOf_9 : decode cX8_countOf 9 = .ok (.iload_n 1, 1) := by decide +kernel
theorem dX8_countOf_10 : decode cX8_countOf 10 = .ok (.iconst 4, 1) := by decide +kernel
theorem dX8_countOf_11 : decode cX8_countOf 11 = .ok (.if_icmp .le 45, 3) := by decide +kernel
theorem dX8_countOf_14 : decode cX8_countOf 14 = .ok (.iload_n 1, 1) := by decide +kernel
theorem dX8_countOf_15 : decode cX8_countOf 15 = .ok (.ifCond .ne 10, 3) := by decide +kernel
theorem dX8_countOf_18 : decode cX8_countOf 18 = .ok (.aload_n 0, 1) := by decide +kernel
theorem dX8_countOf_19 : decode cX8_countOf 19 = .ok (.getfield 74, 3) := by decide +kernel
theorem dX8_countOf_22 : decode cX8_countOf 22 = .ok (.goto 33, 3) := by decide +kernel
theorem dX8_countOf_25 : decode cX8_countOf 25 = .ok (.iload_n 1, 1) := by decide +kernel
theorem dX8_countOf_26 : decode cX8_countOf 26 = .ok (.iconst 2, 1) := by decide +kernel
theorem dX8_countOf_27 : decode cX8_countOf 27 = .ok (.if_icmp .ne 10, 3) := by decide +kernel
theorem dX8_countOf_30 : decode cX8_countOf 30 = .ok (.aload_n 0, 1) := by decide +kernel
theorem dX8_countOf_31 : decode cX8_countOf 31 = .ok (.getfield 85, 3) := by decide +kernel
theorem dX8_countOf_34 : decode cX8_countOf 34 = .ok (.goto 21, 3) := by decide +kernel
theorem dX8_countOf_37 : decode cX8_countOf 37 = .ok (.iload_n 1, 1) := by decide +kernel
theorem dX8_countOf_38 : decode cX8_countOf 38 = .ok (.iconst 5, 1) := by decide +kernel
theorem dX8_countOf_39 : decode cX8_countOf 39 = .ok (.if_icmp .ne 10, 3) := by decide +kernel
theorem dX8_countOf_42 : decode cX8_countOf 42 = .ok (.aload_n 0, 1) := by decide +kernel
theorem dX8_countOf_43 : decode cX8_countOf 43 = .ok (.getfield 168, 3) := by decide +kernel
theorem dX8_countOf_46 : decode cX8_countOf 46 = .ok (.goto 9, 3) := by decide +kernel
theorem dX8_countOf_49 : decode cX8_countOf 49 = .ok (.aload_n 0, 1) := by decide +kernel
theorem dX8_countOf_50 : decode cX8_countOf 50 = .ok (.iconst (-1), 1) := by decide +kernel
theorem dX8_countOf_51 : decode cX8_countOf 51 = .ok (.iconst (-1), 1) := by decide +kernel
theorem dX8_countOf_52 : decode cX8_countOf 52 = .ok (.invokevirtual 153, 3) := by decide +kernel
theorem dX8_countOf_55 : decode cX8_countOf 55 = .ok (.ireturn, 1) := by decide +kernel
theorem dX8_countOf_56 : decode cX8_countOf 56 = .ok (.iconst 0, 1) := by decide +kernel
theorem dX8_countOf_57 : decode cX8_countOf 57 = .ok (.istore_n 2, 1) := by decide +kernel
theorem dX8_countOf_58 : decode cX8_countOf 58 = .ok (.iconst 0, 1) := by decide +kernel
theorem dX8_countOf_59 : decode cX8_countOf 59 = .ok (.istore_n 3, 1) := by decide +kernel
theorem dX8_countOf_60 : decode cX8_countOf 60 = .ok (.iload_n 3, 1) := by decide +kernel
theorem dX8_countOf_61 : decode cX8_countOf 61 = .ok (.bipush 8, 2) := by decide +kernel
theorem dX8_countOf_63 : decode cX8_countOf 63 = .ok (.if_icmp .ge 69, 3) := by decide +kernel
theorem dX8_countOf_66 : decode cX8_countOf 66 = .ok (.iload_n 2, 1) := by decide +kernel
theorem dX8_countOf_67 : decode cX8_countOf 67 = .ok (.iload_n 1, 1) := by decide +kernel
theorem dX8_countOf_68 : decode cX8_countOf 68 = .ok (.iconst 1, 1) := by decide +kernel
theorem dX8_countOf_69 : decode cX8_countOf 69 = .ok (.if_icmp .ne 24, 3) := by decide +kernel
theorem dX8_countOf_72 : decode cX8_countOf 72 = .ok (.iload_n 3, 1) := by decide +kernel
theorem dX8_countOf_73 : decode cX8_countOf 73 = .ok (.aload_n 0, 1) := by decide +kernel
theorem dX8_countOf_74 : decode cX8_countOf 74 = .ok (.getfield 74, 3) := by decide +kernel
theorem dX8_countOf_77 : decode cX8_countOf 77 = .ok (.if_icmp .ge 12, 3) := by decide +kernel
theorem dX8_countOf_80 : decode cX8_countOf 80 = .ok (.aload_n 0, 1) := by decide +kernel
theorem dX8_countOf_81 : decode cX8_countOf 81 = .ok (.getfield 7, 3) := by decide +kernel
theorem dX8_countOf_84 : decode cX8_countOf 84 = .ok (.iload_n 3, 1) := by decide +kernel
theorem dX8_countOf_85 : decode cX8_countOf 85 = .ok (.iaload, 1) := by decide +kernel
theorem dX8_countOf_86 : decode cX8_countOf 86 = .ok (.goto 38, 3) := by decide +kernel
theorem dX8_countOf_89 : decode cX8_countOf 89 = .ok (.iconst 0, 1) := by decide +kernel
theorem dX8_countOf_90 : decode cX8_countOf 90 = .ok (.goto 34, 3) := by decide +kernel
theorem dX8_countOf_93 : decode cX8_countOf 93 = .ok (.iload_n 3, 1) := by decide +kernel
theorem dX8_countOf_94 : decode cX8_countOf 94 = .ok (.aload_n 0, 1) := by decide +kernel
theorem dX8_countOf_95 : decode cX8_countOf 95 = .ok (.getfield 85, 3) := by decide +kernel
theorem dX8_countOf_98 : decode cX8_countOf 98 = .ok (.if_icmp .lt 7, 3) := by decide +kernel
theorem dX8_countOf_101 : decode cX8_countOf 101 = .ok (.iconst 0, 1) := by decide +kernel
theorem dX8_countOf_102 : decode cX8_countOf 102 = .ok (.goto 22, 3) := by decide +kernel
theorem dX8_countOf_105 : decode cX8_countOf 105 = .ok (.iload_n 1, 1) := by decide +kernel
theorem dX8_countOf_106 : decode cX8_countOf 106 = .ok (.iconst 3, 1) := by decide +kernel
theorem dX8_countOf_107 : decode cX8_countOf 107 = .ok (.if_icmp .ne 12, 3) := by decide +kernel
theorem dX8_countOf_110 : decode cX8_countOf 110 = .ok (.aload_n 0, 1) := by decide +kernel
theorem dX8_countOf_111 : decode cX8_countOf 111 = .ok (.getfield 31, 3) := by decide +kernel
theorem dX8_countOf_114 : decode cX8_countOf 114 = .ok (.iload_n 3, 1) := by decide +kernel
theorem dX8_countOf_115 : decode cX8_countOf 115 = .ok (.iaload, 1) := by decide +kernel
theorem dX8_countOf_116 : decode cX8_countOf 116 = .ok (.goto 8, 3) := by decide +kernel
theorem dX8_countOf_119 : decode cX8_countOf 119 = .ok (.aload_n 0, 1) := by decide +kernel
theorem dX8_countOf_120 : decode cX8_countOf 120 = .ok (.iload_n 3, 1) := by decide +kernel
theorem dX8_countOf_121 : decode cX8_countOf 121 = .ok (.invokevirtual 177, 3) := by decide +kernel
theorem dX8_countOf_124 : decode cX8_countOf 124 = .ok (.iadd, 1) := by decide +kernel
theorem dX8_countOf_125 : decode cX8_countOf 125 = .ok (.istore_n 2, 1) := by decide +kernel
theorem dX8_countOf_126 : decode cX8_countOf 126 = .ok (.iinc 3 1, 3) := by decide +kernel
theorem dX8_countOf_129 : decode cX8_countOf 129 = .ok (.goto (-69), 3) := by decide +kernel
theorem dX8_countOf_132 : decode cX8_countOf 132 = .ok (.iload_n 2, 1) := by decide +kernel
theorem dX8_countOf_133 : decode cX8_countOf 133 = .ok (.ireturn, 1) := by decide +kernel
theorem dX8_count_0 : decode cX8_count 0 = .ok (.aload_n 0, 1) := by decide +kernel
theorem dX8_count_1 : decode cX8_count 1 = .ok (.iload_n 1, 1) := by decide +kernel
theorem dX8_count_2 : decode cX8_count 2 = .ok (.iconst 0, 1) := by decide +kernel
theorem dX8_count_3 : decode cX8_count 3 = .ok (.bipush 6, 2) := by decide +kernel
theorem dX8_count_5 : decode cX8_count 5 = .ok (.invokestatic 81, 3) := by decide +kernel
theorem dX8_count_8 : decode cX8_count 8 = .ok (.ifCond .eq 7, 3) := by decide +kernel
theorem dX8_count_11 : decode cX8_count 11 = .ok (.iconst 0, 1) := by decide +kernel
theorem dX8_count_12 : decode cX8_count 12 = .ok (.goto 4, 3) := by decide +kernel
theorem dX8_count_15 : decode cX8_count 15 = .ok (.iconst 1, 1) := by decide +kernel
theorem dX8_count_16 : decode cX8_count 16 = .ok (.invokevirtual 112, 3) := by decide +kernel
theorem dX8_count_19 : decode cX8_count 19 = .ok (.ifCond .eq 11, 3) := by decide +kernel
theorem dX8_count_22 : decode cX8_count 22 = .ok (.aload_n 0, 1) := by decide +kernel
theorem dX8_count_23 : decode cX8_count 23 = .ok (.iload_n 1, 1) := by decide +kernel
theorem dX8_count_24 : decode cX8_count 24 = .ok (.invokevirtual 192, 3) := by decide +kernel
theorem dX8_count_27 : decode cX8_count 27 = .ok (.goto 4, 3) := by decide +kernel
theorem dX8_count_30 : decode cX8_count 30 = .ok (.iconst 0, 1) := by decide +kernel
theorem dX8_count_31 : decode cX8_count 31 = .ok (.ireturn, 1) := by decide +kernel
theorem dJ9_floorDiv_7cf53_0 : decode cJ9_floorDiv_7cf53 0 = .ok (.iload_n 0, 1) := by decide +kernel
theorem dJ9_floorDiv_7cf53_1 : decode cJ9_floorDiv_7cf53 1 = .ok (.iload_n 1, 1) := by decide +kernel
theorem dJ9_floorDiv_7cf53_2 : decode cJ9_floorDiv_7cf53 2 = .ok (.idiv, 1) := by decide +kernel
theorem dJ9_floorDiv_7cf53_3 : decode cJ9_floorDiv_7cf53 3 = .ok (.istore_n 2, 1) := by decide +kernel
theorem dJ9_floorDiv_7cf53_4 : decode cJ9_floorDiv_7cf53 4 = .ok (.iload_n 0, 1) := by decide +kernel
theorem dJ9_floorDiv_7cf53_5 : decode cJ9_floorDiv_7cf53 5 = .ok (.iload_n 1, 1) := by decide +kernel
theorem dJ9_floorDiv_7cf53_6 : decode cJ9_floorDiv_7cf53 6 = .ok (.ixor, 1) := by decide +kernel
theorem dJ9_floorDiv_7cf53_7 : decode cJ9_floorDiv_7cf53 7 = .ok (.ifCond .ge 14, 3) := by decide +kernel
theorem dJ9_floorDiv_7cf53_10 : decode cJ9_floorDiv_7cf53 10 = .ok (.iload_n 2, 1) := by decide +kernel
theorem dJ9_floorDiv_7cf53_11 : decode cJ9_floorDiv_7cf53 11 = .ok (.iload_n 1, 1) := by decide +kernel
theorem dJ9_floorDiv_7cf53_12 : decode cJ9_floorDiv_7cf53 12 = .ok (.imul, 1) := by decide +kernel
theorem dJ9_floorDiv_7cf53_13 : decode cJ9_floorDiv_7cf53 13 = .ok (.iload_n 0, 1) := by decide +kernel
theorem dJ9_floorDiv_7cf53_14 : decode cJ9_floorDiv_7cf53 14 = .ok (.if_icmp .eq 7, 3) := by decide +kernel
theorem dJ9_floorDiv_7cf53_17 : decode cJ9_floorDiv_7cf53 17 = .ok (.iload_n 2, 1) := by decide +kernel
theorem dJ9_floorDiv_7cf53_18 : decode cJ9_floorDiv_7cf53 18 = .ok (.iconst 1, 1) := by decide +kernel
theorem dJ9_floorDiv_7cf53_19 : decode cJ9_floorDiv_7cf53 19 = .ok (.isub, 1) := by decide +kernel
theorem dJ9_floorDiv_7cf53_20 : decode cJ9_floorDiv_7cf53 20 = .ok (.ireturn, 1) := by decide +kernel
theorem dJ9_floorDiv_7cf53_21 : decode cJ9_floorDiv_7cf53 21 = .ok (.iload_n 2, 1) := by decide +kernel
theorem dJ9_floorDiv_7cf53_22 : decode cJ9_floorDiv_7cf53 22 = .ok (.ireturn, 1) := by decide +kernel
theorem dL_asset_0 : decode cL_asset 0 = .ok (.aload_n 1, 1) := by decide +kernel
theorem dL_asset_1 : decode cL_asset 1 = .ok (.iconst 0, 1) := by decide +kernel
theorem dL_asset_2 : decode cL_asset 2 = .ok (.aload_n 0, 1) := by decide +kernel
theorem dL_asset_3 : decode cL_asset 3 = .ok (.invokevirtual 7, 3) := by decide +kernel
theorem dL_asset_6 : decode cL_asset 6 = .ok (.i2l, 1) := by decide +kernel
theorem dL_asset_7 : decode cL_asset 7 = .ok (.lastore, 1) := by decide +kernel
theorem dL_asset_8 : decode cL_asset 8 = .ok (.goto 6, 3) := by decide +kernel
theorem dL_asset_11 : decode cL_asset 11 = .ok (.astore_n 2, 1) := by decide +kernel
theorem dL_asset_12 : decode cL_asset 12 = .ok (.iconst 1, 1) := by decide +kernel
theorem dL_asset_13 : decode cL_asset 13 = .ok (.ireturn, 1) := by decide +kernel
theorem dL_asset_14 : decode cL_asset 14 = .ok (.iconst 0, 1) := by decide +kernel
theorem dL_asset_15 : decode cL_asset 15 = .ok (.ireturn, 1) := by decide +kernel
theorem dL_bone_0 : decode cL_bone 0 = .ok (.aload_n 3, 1) := by decide +kernel
theorem dL_bone_1 : decode cL_bone 1 = .ok (.iconst 0, 1) := by decide +kernel
theorem dL_bone_2 : decode cL_bone 2 = .ok (.aload_n 0, 1) := by decide +kernel
theorem dL_bone_3 : decode cL_bone 3 = .ok (.iload_n 1, 1) := by decide +kernel
theorem dL_bone_4 : decode cL_bone 4 = .ok (.iload_n 2, 1) := by decide +kernel
theorem dL_bone_5 : decode cL_bone 5 = .ok (.invokevirtual 15, 3) := by decide +kernel
theorem dL_bone_8 : decode cL_bone 8 = .ok (.i2l, 1) := by decide +kernel
theorem dL_bone_9 : decode cL_bone 9 = .ok (.lastore, 1) := by decide +kernel
theorem dL_bone_10 : decode cL_bone 10 = .ok (.goto 11, 3) := by decide +kernel
theorem dL_bone_13 : decode cL_bone 13 = .ok (.astore 4, 2) := by decide +kernel
theorem dL_bone_15 : decode cL_bone 15 = .ok (.iconst 1, 1) := by decide +kernel
theorem dL_bone_16 : decode cL_bone 16 = .ok (.ireturn, 1) := by decide +kernel
theorem dL_bone_17 : decode cL_bone 17 = .ok (.astore 4, 2) := by decide +kernel
theorem dL_bone_19 : decode cL_bone 19 = .ok (.iconst 2, 1) := by decide +kernel
theorem dL_bone_20 : decode cL_bone 20 = .ok (.ireturn, 1) := by decide +kernel
theorem dL_bone_21 : decode cL_bone 21 = .ok (.iconst 0, 1) := by decide +kernel
theorem dL_bone_22 : decode cL_bone 22 = .ok (.ireturn, 1) := by decide +kernel
theorem dL_key_0 : decode cL_key 0 = .ok (.aload 6, 2) := by decide +kernel
theorem dL_key_2 : decode cL_key 2 = .ok (.iconst 0, 1) := by decide +kernel
theorem dL_key_3 : decode cL_key 3 = .ok (.aload_n 0, 1) := by decide +kernel
theorem dL_key_4 : decode cL_key 4 = .ok (.iload_n 1, 1) := by decide +kernel
theorem dL_key_5 : decode cL_key 5 = .ok (.iload_n 2, 1) := by decide +kernel
theorem dL_key_6 : decode cL_key 6 = .ok (.iload_n 3, 1) := by decide +kernel
theorem dL_key_7 : decode cL_key 7 = .ok (.iload 4, 2) := by decide +kernel
theorem dL_key_9 : decode cL_key 9 = .ok (.iload 5, 2) := by decide +kernel
theorem dL_key_11 : decode cL_key 11 = .ok (.invokevirtual 21, 3) := by decide +kernel
theorem dL_key_14 : decode cL_key 14 = .ok (.i2l, 1) := by decide +kernel
theorem dL_key_15 : decode cL_key 15 = .ok (.lastore, 1) := by decide +kernel
theorem dL_key_16 : decode cL_key 16 = .ok (.goto 15, 3) := by decide +kernel
theorem dL_key_19 : decode cL_key 19 = .ok (.astore 7, 2) := by decide +kernel
theorem dL_key_21 : decode cL_key 21 = .ok (.iconst 1, 1) := by decide +kernel
theorem dL_key_22 : decode cL_key 22 = .ok (.ireturn, 1) := by decide +kernel
theorem dL_key_23 : decode cL_key 23 = .ok (.astore 7, 2) := by decide +kernel
theorem dL_key_25 : decode cL_key 25 = .ok (.iconst 2, 1) := by decide +kernel
theorem dL_key_26 : decode cL_key 26 = .ok (.ireturn, 1) := by decide +kernel
theorem dL_key_27 : decode cL_key 27 = .ok (.astore 7, 2) := by decide +kernel
theorem dL_key_29 : decode cL_key 29 = .ok (.iconst 3, 1) := by decide +kernel
theorem dL_key_30 : decode cL_key 30 = .ok (.ireturn, 1) := by decide +kernel
theorem dL_key_31 : decode cL_key 31 = .ok (.iconst 0, 1) := by decide +kernel
theorem dL_key_32 : decode cL_key 32 = .ok (.ireturn, 1) := by decide +kernel
theorem dL_unkey_0 : decode cL_unkey 0 = .ok (.aload 4, 2) := by decide +kernel
theorem dL_unkey_2 : decode cL_unkey 2 = .ok (.iconst 0, 1) := by decide +kernel
theorem dL_unkey_3 : decode cL_unkey 3 = .ok (.aload_n 0, 1) := by decide +kernel
theorem dL_unkey_4 : decode cL_unkey 4 = .ok (.iload_n 1, 1) := by decide +kernel
theorem dL_unkey_5 : decode cL_unkey 5 = .ok (.iload_n 2, 1) := by decide +kernel
theorem dL_unkey_6 : decode cL_unkey 6 = .ok (.iload_n 3, 1) := by decide +kernel
theorem dL_unkey_7 : decode cL_unkey 7 = .ok (.invokevirtual 27, 3) := by decide +kernel
theorem dL_unkey_10 : decode cL_unkey 10 = .ok (.ifCond .eq 7, 3) := by decide +kernel
theorem dL_unkey_13 : decode cL_unkey 13 = .ok (.lconst 1, 1) := by decide +kernel
theorem dL_unkey_14 : decode cL_unkey 14 = .ok (.goto 4, 3) := by decide +kernel
theorem dL_unkey_17 : decode cL_unkey 17 = .ok (.lconst 0, 1) := by decide +kernel
theorem dL_unkey_18 : decode cL_unkey 18 = .ok (.lastore, 1) := by decide +kernel
theorem dL_unkey_19 : decode cL_unkey 19 = .ok (.goto 11, 3) := by decide +kernel
theorem dL_unkey_22 : decode cL_unkey 22 = .ok (.astore 5, 2) := by decide +kernel
theorem dL_unkey_24 : decode cL_unkey 24 = .ok (.iconst 1, 1) := by decide +kernel
theorem dL_unkey_25 : decode cL_unkey 25 = .ok (.ireturn, 1) := by decide +kernel
theorem dL_unkey_26 : decode cL_unkey 26 = .ok (.astore 5, 2) := by decide +kernel
theorem dL_unkey_28 : decode cL_unkey 28 = .ok (.iconst 2, 1) := by decide +kernel
theorem dL_unkey_29 : decode cL_unkey 29 = .ok (.ireturn, 1) := by decide +kernel
theorem dL_unkey_30 : decode cL_unkey 30 = .ok (.iconst 0, 1) := by decide +kernel
theorem dL_unkey_31 : decode cL_unkey 31 = .ok (.ireturn, 1) := by decide +kernel
theorem dL_publish_0 : decode cL_publish 0 = .ok (.aload_n 2, 1) := by decide +kernel
theorem dL_publish_1 : decode cL_publish 1 = .ok (.iconst 0, 1) := by decide +kernel
theorem dL_publish_2 : decode cL_publish 2 = .ok (.aload_n 0, 1) := by decide +kernel
theorem dL_publish_3 : decode cL_publish 3 = .ok (.iload_n 1, 1) := by decide +kernel
theorem dL_publish_4 : decode cL_publish 4 = .ok (.invokevirtual 31, 3) := by decide +kernel
theorem dL_publish_7 : decode cL_publish 7 = .ok (.i2l, 1) := by decide +kernel
theorem dL_publish_8 : decode cL_publish 8 = .ok (.lastore, 1) := by decide +kernel
theorem dL_publish_9 : decode cL_publish 9 = .ok (.goto 9, 3) := by decide +kernel
theorem dL_publish_12 : decode cL_publish 12 = .ok (.astore_n 3, 1) := by decide +kernel
theorem dL_publish_13 : decode cL_publish 13 = .ok (.iconst 1, 1) := by decide +kernel
theorem dL_publish_14 : decode cL_publish 14 = .ok (.ireturn, 1) := by decide +kernel
theorem dL_publish_15 : decode cL_publish 15 = .ok (.astore_n 3, 1) := by decide +kernel
theorem dL_publish_16 : decode cL_publish 16 = .ok (.iconst 2, 1) := by decide +kernel
theorem dL_publish_17 : decode cL_publish 17 = .ok (.ireturn, 1) := by decide +kernel
theorem dL_publish_18 : decode cL_publish 18 = .ok (.iconst 0, 1) := by decide +kernel
theorem dL_publish_19 : decode cL_publish 19 = .ok (.ireturn, 1) := by decide +kernel
theorem dL_pose_0 : decode cL_pose 0 = .ok (.aload 5, 2) := by decide +kernel
theorem dL_pose_2 : decode cL_pose 2 = .ok (.iconst 0, 1) := by decide +kernel
theorem dL_pose_3 : decode cL_pose 3 = .ok (.aload_n 0, 1) := by decide +kernel
theorem dL_pose_4 : decode cL_pose 4 = .ok (.iload_n 1, 1) := by decide +kernel
theorem dL_pose_5 : decode cL_pose 5 = .ok (.iload_n 2, 1) := by decide +kernel
theorem dL_pose_6 : decode cL_pose 6 = .ok (.iload_n 3, 1) := by decide +kernel
theorem dL_pose_7 : decode cL_pose 7 = .ok (.iload 4, 2) := by decide +kernel
theorem dL_pose_9 : decode cL_pose 9 = .ok (.invokevirtual 35, 3) := by decide +kernel
theorem dL_pose_12 : decode cL_pose 12 = .ok (.i2l, 1) := by decide +kernel
theorem dL_pose_13 : decode cL_pose 13 = .ok (.lastore, 1) := by decide +kernel
theorem dL_pose_14 : decode cL_pose 14 = .ok (.goto 11, 3) := by decide +kernel
theorem dL_pose_17 : decode cL_pose 17 = .ok (.astore 6, 2) := by decide +kernel
theorem dL_pose_19 : decode cL_pose 19 = .ok (.iconst 1, 1) := by decide +kernel
theorem dL_pose_20 : decode cL_pose 20 = .ok (.ireturn, 1) := by decide +kernel
theorem dL_pose_21 : decode cL_pose 21 = .ok (.astore 6, 2) := by decide +kernel
theorem dL_pose_23 : decode cL_pose 23 = .ok (.iconst 2, 1) := by decide +kernel
theorem dL_pose_24 : decode cL_pose 24 = .ok (.ireturn, 1) := by decide +kernel
theorem dL_pose_25 : decode cL_pose 25 = .ok (.iconst 0, 1) := by decide +kernel
theorem dL_pose_26 : decode cL_pose 26 = .ok (.ireturn, 1) := by decide +kernel
theorem dL_poseAnew_0 : decode cL_poseAnew 0 = .ok (.aload 5, 2) := by decide +kernel
theorem dL_poseAnew_2 : decode cL_poseAnew 2 = .ok (.iconst 0, 1) := by decide +kernel
theorem dL_poseAnew_3 : decode cL_poseAnew 3 = .ok (.aload_n 0, 1) := by decide +kernel
theorem dL_poseAnew_4 : decode cL_poseAnew 4 = .ok (.iload_n 1, 1) := by decide +kernel
theorem dL_poseAnew_5 : decode cL_poseAnew 5 = .ok (.iload_n 2, 1) := by decide +kernel
theorem dL_poseAnew_6 : decode cL_poseAnew 6 = .ok (.iload_n 3, 1) := by decide +kernel
theorem dL_poseAnew_7 : decode cL_poseAnew 7 = .ok (.iload 4, 2) := by decide +kernel
theorem dL_poseAnew_9 : decode cL_poseAnew 9 = .ok (.invokevirtual 39, 3) := by decide +kernel
theorem dL_poseAnew_12 : decode cL_poseAnew 12 = .ok (.i2l, 1) := by decide +kernel
theorem dL_poseAnew_13 : decode cL_poseAnew 13 = .ok (.lastore, 1) := by decide +kernel
theorem dL_poseAnew_14 : decode cL_poseAnew 14 = .ok (.goto 11, 3) := by decide +kernel
theorem dL_poseAnew_17 : decode cL_poseAnew 17 = .ok (.astore 6, 2) := by decide +kernel
theorem dL_poseAnew_19 : decode cL_poseAnew 19 = .ok (.iconst 1, 1) := by decide +kernel
theorem dL_poseAnew_20 : decode cL_poseAnew 20 = .ok (.ireturn, 1) := by decide +kernel
theorem dL_poseAnew_21 : decode cL_poseAnew 21 = .ok (.astore 6, 2) := by decide +kernel
theorem dL_poseAnew_23 : decode cL_poseAnew 23 = .ok (.iconst 2, 1) := by decide +kernel
theorem dL_poseAnew_24 : decode cL_poseAnew 24 = .ok (.ireturn, 1) := by decide +kernel
theorem dL_poseAnew_25 : decode cL_poseAnew 25 = .ok (.iconst 0, 1) := by decide +kernel
theorem dL_poseAnew_26 : decode cL_poseAnew 26 = .ok (.ireturn, 1) := by decide +kernel
theorem dL_ofAsset_0 : decode cL_ofAsset 0 = .ok (.aload_n 3, 1) := by decide +kernel
theorem dL_ofAsset_1 : decode cL_ofAsset 1 = .ok (.iconst 0, 1) := by decide +kernel
theorem dL_ofAsset_2 : decode cL_ofAsset 2 = .ok (.aload_n 0, 1) := by decide +kernel
theorem dL_ofAsset_3 : decode cL_ofAsset 3 = .ok (.iload_n 1, 1) := by decide +kernel
theorem dL_ofAsset_4 : decode cL_ofAsset 4 = .ok (.iload_n 2, 1) := by decide +kernel
theorem dL_ofAsset_5 : decode cL_ofAsset 5 = .ok (.invokevirtual 42, 3) := by decide +kernel
theorem dL_ofAsset_8 : decode cL_ofAsset 8 = .ok (.i2l, 1) := by decide +kernel
theorem dL_ofAsset_9 : decode cL_ofAsset 9 = .ok (.lastore, 1) := by decide +kernel
theorem dL_ofAsset_10 : decode cL_ofAsset 10 = .ok (.goto 7, 3) := by decide +kernel
theorem dL_ofAsset_13 : decode cL_ofAsset 13 = .ok (.astore 4, 2) := by decide +kernel
theorem dL_ofAsset_15 : decode cL_ofAsset 15 = .ok (.iconst 1, 1) := by decide +kernel
theorem dL_ofAsset_16 : decode cL_ofAsset 16 = .ok (.ireturn, 1) := by decide +kernel
theorem dL_ofAsset_17 : decode cL_ofAsset 17 = .ok (.iconst 0, 1) := by decide +kernel
theorem dL_ofAsset_18 : decode cL_ofAsset 18 = .ok (.ireturn, 1) := by decide +kernel
theorem dL_scene_0 : decode cL_scene 0 = .ok (.aload_n 2, 1) := by decide +kernel
theorem dL_scene_1 : decode cL_scene 1 = .ok (.iconst 0, 1) := by decide +kernel
theorem dL_scene_2 : decode cL_scene 2 = .ok (.aload_n 0, 1) := by decide +kernel
theorem dL_scene_3 : decode cL_scene 3 = .ok (.iload_n 1, 1) := by decide +kernel
theorem dL_scene_4 : decode cL_scene 4 = .ok (.invokevirtual 45, 3) := by decide +kernel
theorem dL_scene_7 : decode cL_scene 7 = .ok (.i2l, 1) := by decide +kernel
theorem dL_scene_8 : decode cL_scene 8 = .ok (.lastore, 1) := by decide +kernel
theorem dL_scene_9 : decode cL_scene 9 = .ok (.goto 9, 3) := by decide +kernel
theorem dL_scene_12 : decode cL_scene 12 = .ok (.astore_n 3, 1) := by decide +kernel
theorem dL_scene_13 : decode cL_scene 13 = .ok (.iconst 1, 1) := by decide +kernel
theorem dL_scene_14 : decode cL_scene 14 = .ok (.ireturn, 1) := by decide +kernel
theorem dL_scene_15 : decode cL_scene 15 = .ok (.astore_n 3, 1) := by decide +kernel
theorem dL_scene_16 : decode cL_scene 16 = .ok (.iconst 2, 1) := by decide +kernel
theorem dL_scene_17 : decode cL_scene 17 = .ok (.ireturn, 1) := by decide +kernel
theorem dL_scene_18 : decode cL_scene 18 = .ok (.iconst 0, 1) := by decide +kernel
theorem dL_scene_19 : decode cL_scene 19 = .ok (.ireturn, 1) := by decide +kernel
theorem dL_cast_0 : decode cL_cast 0 = .ok (.aload 6, 2) := by decide +kernel
theorem dL_cast_2 : decode cL_cast 2 = .ok (.iconst 0, 1) := by decide +kernel
theorem dL_cast_3 : decode cL_cast 3 = .ok (.aload_n 0, 1) := by decide +kernel
theorem dL_cast_4 : decode cL_cast 4 = .ok (.iload_n 1, 1) := by decide +kernel
theorem dL_cast_5 : decode cL_cast 5 = .ok (.iload_n 2, 1) := by decide +kernel
theorem dL_cast_6 : decode cL_cast 6 = .ok (.iload_n 3, 1) := by decide +kernel
theorem dL_cast_7 : decode cL_cast 7 = .ok (.iload 4, 2) := by decide +kernel
theorem dL_cast_9 : decode cL_cast 9 = .ok (.iload 5, 2) := by decide +kernel
theorem dL_cast_11 : decode cL_cast 11 = .ok (.invokevirtual 48, 3) := by decide +kernel
theorem dL_cast_14 : decode cL_cast 14 = .ok (.i2l, 1) := by decide +kernel
theorem dL_cast_15 : decode cL_cast 15 = .ok (.lastore, 1) := by decide +kernel
theorem dL_cast_16 : decode cL_cast 16 = .ok (.goto 11, 3) := by decide +kernel
theorem dL_cast_19 : decode cL_cast 19 = .ok (.astore 7, 2) := by decide +kernel
theorem dL_cast_21 : decode cL_cast 21 = .ok (.iconst 1, 1) := by decide +kernel
theorem dL_cast_22 : decode cL_cast 22 = .ok (.ireturn, 1) := by decide +kernel
theorem dL_cast_23 : decode cL_cast 23 = .ok (.astore 7, 2) := by decide +kernel
theorem dL_cast_25 : decode cL_cast 25 = .ok (.iconst 2, 1) := by decide +kernel
theorem dL_cast_26 : decode cL_cast 26 = .ok (.ireturn, 1) := by decide +kernel
theorem dL_cast_27 : decode cL_cast 27 = .ok (.iconst 0, 1) := by decide +kernel
theorem dL_cast_28 : decode cL_cast 28 = .ok (.ireturn, 1) := by decide +kernel
theorem dL_cut_0 : decode cL_cut 0 = .ok (.aload 4, 2) := by decide +kernel
theorem dL_cut_2 : decode cL_cut 2 = .ok (.iconst 0, 1) := by decide +kernel
theorem dL_cut_3 : decode cL_cut 3 = .ok (.aload_n 0, 1) := by decide +kernel
theorem dL_cut_4 : decode cL_cut 4 = .ok (.iload_n 1, 1) := by decide +kernel
theorem dL_cut_5 : decode cL_cut 5 = .ok (.iload_n 2, 1) := by decide +kernel
theorem dL_cut_6 : decode cL_cut 6 = .ok (.iload_n 3, 1) := by decide +kernel
theorem dL_cut_7 : decode cL_cut 7 = .ok (.invokevirtual 51, 3) := by decide +kernel
theorem dL_cut_10 : decode cL_cut 10 = .ok (.i2l, 1) := by decide +kernel
theorem dL_cut_11 : decode cL_cut 11 = .ok (.lastore, 1) := by decide +kernel
theorem dL_cut_12 : decode cL_cut 12 = .ok (.goto 15, 3) := by decide +kernel
theorem dL_cut_15 : decode cL_cut 15 = .ok (.astore 5, 2) := by decide +kernel
theorem dL_cut_17 : decode cL_cut 17 = .ok (.iconst 1, 1) := by decide +kernel
theorem dL_cut_18 : decode cL_cut 18 = .ok (.ireturn, 1) := by decide +kernel
theorem dL_cut_19 : decode cL_cut 19 = .ok (.astore 5, 2) := by decide +kernel
theorem dL_cut_21 : decode cL_cut 21 = .ok (.iconst 2, 1) := by decide +kernel
theorem dL_cut_22 : decode cL_cut 22 = .ok (.ireturn, 1) := by decide +kernel
theorem dL_cut_23 : decode cL_cut 23 = .ok (.astore 5, 2) := by decide +kernel
theorem dL_cut_25 : decode cL_cut 25 = .ok (.iconst 3, 1) := by decide +kernel
theorem dL_cut_26 : decode cL_cut 26 = .ok (.ireturn, 1) := by decide +kernel
theorem dL_cut_27 : decode cL_cut 27 = .ok (.iconst 0, 1) := by decide +kernel
theorem dL_cut_28 : decode cL_cut 28 = .ok (.ireturn, 1) := by decide +kernel
theorem dL_note_0 : decode cL_note 0 = .ok (.aload_n 3, 1) := by decide +kernel
theorem dL_note_1 : decode cL_note 1 = .ok (.iconst 0, 1) := by decide +kernel
theorem dL_note_2 : decode cL_note 2 = .ok (.aload_n 0, 1) := by decide +kernel
theorem dL_note_3 : decode cL_note 3 = .ok (.iload_n 1, 1) := by decide +kernel
theorem dL_note_4 : decode cL_note 4 = .ok (.iload_n 2, 1) := by decide +kernel
theorem dL_note_5 : decode cL_note 5 = .ok (.invokevirtual 55, 3) := by decide +kernel
theorem dL_note_8 : decode cL_note 8 = .ok (.i2l, 1) := by decide +kernel
theorem dL_note_9 : decode cL_note 9 = .ok (.lastore, 1) := by decide +kernel
theorem dL_note_10 : decode cL_note 10 = .ok (.goto 11, 3) := by decide +kernel
theorem dL_note_13 : decode cL_note 13 = .ok (.astore 4, 2) := by decide +kernel
theorem dL_note_15 : decode cL_note 15 = .ok (.iconst 1, 1) := by decide +kernel
theorem dL_note_16 : decode cL_note 16 = .ok (.ireturn, 1) := by decide +kernel
theorem dL_note_17 : decode cL_note 17 = .ok (.astore 4, 2) := by decide +kernel
theorem dL_note_19 : decode cL_note 19 = .ok (.iconst 2, 1) := by decide +kernel
theorem dL_note_20 : decode cL_note 20 = .ok (.ireturn, 1) := by decide +kernel
theorem dL_note_21 : decode cL_note 21 = .ok (.iconst 0, 1) := by decide +kernel
theorem dL_note_22 : decode cL_note 22 = .ok (.ireturn, 1) := by decide +kernel
theorem dL_settle_0 : decode cL_settle 0 = .ok (.aload_n 2, 1) := by decide +kernel
theorem dL_settle_1 : decode cL_settle 1 = .ok (.iconst 0, 1) := by decide +kernel
theorem dL_settle_2 : decode cL_settle 2 = .ok (.aload_n 0, 1) := by decide +kernel
theorem dL_settle_3 : decode cL_settle 3 = .ok (.iload_n 1, 1) := by decide +kernel
theorem dL_settle_4 : decode cL_settle 4 = .ok (.invokevirtual 58, 3) := by decide +kernel
theorem dL_settle_7 : decode cL_settle 7 = .ok (.i2l, 1) := by decide +kernel
theorem dL_settle_8 : decode cL_settle 8 = .ok (.lastore, 1) := by decide +kernel
theorem dL_settle_9 : decode cL_settle 9 = .ok (.goto 9, 3) := by decide +kernel
theorem dL_settle_12 : decode cL_settle 12 = .ok (.astore_n 3, 1) := by decide +kernel
theorem dL_settle_13 : decode cL_settle 13 = .ok (.iconst 1, 1) := by decide +kernel
theorem dL_settle_14 : decode cL_settle 14 = .ok (.ireturn, 1) := by decide +kernel
theorem dL_settle_15 : decode cL_settle 15 = .ok (.astore_n 3, 1) := by decide +kernel
theorem dL_settle_16 : decode cL_settle 16 = .ok (.iconst 2, 1) := by decide +kernel
theorem dL_settle_17 : decode cL_settle 17 = .ok (.ireturn, 1) := by decide +kernel
theorem dL_settle_18 : decode cL_settle 18 = .ok (.iconst 0, 1) := by decide +kernel
theorem dL_settle_19 : decode cL_settle 19 = .ok (.ireturn, 1) := by decide +kernel
theorem dL_ofNote_0 : decode cL_ofNote 0 = .ok (.aload_n 3, 1) := by decide +kernel
theorem dL_ofNote_1 : decode cL_ofNote 1 = .ok (.iconst 0, 1) := by decide +kernel
theorem dL_ofNote_2 : decode cL_ofNote 2 = .ok (.aload_n 0, 1) := by decide +kernel
theorem dL_ofNote_3 : decode cL_ofNote 3 = .ok (.iload_n 1, 1) := by decide +kernel
theorem dL_ofNote_4 : decode cL_ofNote 4 = .ok (.iload_n 2, 1) := by decide +kernel
theorem dL_ofNote_5 : decode cL_ofNote 5 = .ok (.invokevirtual 61, 3) := by decide +kernel
theorem dL_ofNote_8 : decode cL_ofNote 8 = .ok (.i2l, 1) := by decide +kernel
theorem dL_ofNote_9 : decode cL_ofNote 9 = .ok (.lastore, 1) := by decide +kernel
theorem dL_ofNote_10 : decode cL_ofNote 10 = .ok (.goto 7, 3) := by decide +kernel
theorem dL_ofNote_13 : decode cL_ofNote 13 = .ok (.astore 4, 2) := by decide +kernel
theorem dL_ofNote_15 : decode cL_ofNote 15 = .ok (.iconst 1, 1) := by decide +kernel
theorem dL_ofNote_16 : decode cL_ofNote 16 = .ok (.ireturn, 1) := by decide +kernel
theorem dL_ofNote_17 : decode cL_ofNote 17 = .ok (.iconst 0, 1) := by decide +kernel
theorem dL_ofNote_18 : decode cL_ofNote 18 = .ok (.ireturn, 1) := by decide +kernel
theorem dL_render_0 : decode cL_render 0 = .ok (.aload_n 2, 1) := by decide +kernel
theorem dL_render_1 : decode cL_render 1 = .ok (.iconst 0, 1) := by decide +kernel
theorem dL_render_2 : decode cL_render 2 = .ok (.aload_n 0, 1) := by decide +kernel
theorem dL_render_3 : decode cL_render 3 = .ok (.iload_n 1, 1) := by decide +kernel
theorem dL_render_4 : decode cL_render 4 = .ok (.invokevirtual 64, 3) := by decide +kernel
theorem dL_render_7 : decode cL_render 7 = .ok (.i2l, 1) := by decide +kernel
theorem dL_render_8 : decode cL_render 8 = .ok (.lastore, 1) := by decide +kernel
theorem dL_render_9 : decode cL_render 9 = .ok (.goto 6, 3) := by decide +kernel
theorem dL_render_12 : decode cL_render 12 = .ok (.astore_n 3, 1) := by decide +kernel
theorem dL_render_13 : decode cL_render 13 = .ok (.iconst 1, 1) := by decide +kernel
theorem dL_render_14 : decode cL_render 14 = .ok (.ireturn, 1) := by decide +kernel
theorem dL_render_15 : decode cL_render 15 = .ok (.iconst 0, 1) := by decide +kernel
theorem dL_render_16 : decode cL_render 16 = .ok (.ireturn, 1) := by decide +kernel
theorem dL_renderOne_0 : decode cL_renderOne 0 = .ok (.aload_n 3, 1) := by decide +kernel
theorem dL_renderOne_1 : decode cL_renderOne 1 = .ok (.iconst 0, 1) := by decide +kernel
theorem dL_renderOne_2 : decode cL_renderOne 2 = .ok (.aload_n 0, 1) := by decide +kernel
theorem dL_renderOne_3 : decode cL_renderOne 3 = .ok (.iload_n 1, 1) := by decide +kernel
theorem dL_renderOne_4 : decode cL_renderOne 4 = .ok (.iload_n 2, 1) := by decide +kernel
theorem dL_renderOne_5 : decode cL_renderOne 5 = .ok (.invokevirtual 67, 3) := by decide +kernel
theorem dL_renderOne_8 : decode cL_renderOne 8 = .ok (.ifCond .eq 7, 3) := by decide +kernel
theorem dL_renderOne_11 : decode cL_renderOne 11 = .ok (.lconst 1, 1) := by decide +kernel
theorem dL_renderOne_12 : decode cL_renderOne 12 = .ok (.goto 4, 3) := by decide +kernel
theorem dL_renderOne_15 : decode cL_renderOne 15 = .ok (.lconst 0, 1) := by decide +kernel
theorem dL_renderOne_16 : decode cL_renderOne 16 = .ok (.lastore, 1) := by decide +kernel
theorem dL_renderOne_17 : decode cL_renderOne 17 = .ok (.goto 7, 3) := by decide +kernel
theorem dL_renderOne_20 : decode cL_renderOne 20 = .ok (.astore 4, 2) := by decide +kernel
theorem dL_renderOne_22 : decode cL_renderOne 22 = .ok (.iconst 1, 1) := by decide +kernel
theorem dL_renderOne_23 : decode cL_renderOne 23 = .ok (.ireturn, 1) := by decide +kernel
theorem dL_renderOne_24 : decode cL_renderOne 24 = .ok (.iconst 0, 1) := by decide +kernel
theorem dL_renderOne_25 : decode cL_renderOne 25 = .ok (.ireturn, 1) := by decide +kernel
theorem dL_needs_0 : decode cL_needs 0 = .ok (.aload_n 2, 1) := by decide +kernel
theorem dL_needs_1 : decode cL_needs 1 = .ok (.iconst 0, 1) := by decide +kernel
theorem dL_needs_2 : decode cL_needs 2 = .ok (.aload_n 0, 1) := by decide +kernel
theorem dL_needs_3 : decode cL_needs 3 = .ok (.iload_n 1, 1) := by decide +kernel
theorem dL_needs_4 : decode cL_needs 4 = .ok (.invokevirtual 71, 3) := by decide +kernel
theorem dL_needs_7 : decode cL_needs 7 = .ok (.i2l, 1) := by decide +kernel
theorem dL_needs_8 : decode cL_needs 8 = .ok (.lastore, 1) := by decide +kernel
theorem dL_needs_9 : decode cL_needs 9 = .ok (.goto 6, 3) := by decide +kernel
theorem dL_needs_12 : decode cL_needs 12 = .ok (.astore_n 3, 1) := by decide +kernel
theorem dL_needs_13 : decode cL_needs 13 = .ok (.iconst 1, 1) := by decide +kernel
theorem dL_needs_14 : decode cL_needs 14 = .ok (.ireturn, 1) := by decide +kernel
theorem dL_needs_15 : decode cL_needs 15 = .ok (.iconst 0, 1) := by decide +kernel
theorem dL_needs_16 : decode cL_needs 16 = .ok (.ireturn, 1) := by decide +kernel
theorem dL_mixes_0 : decode cL_mixes 0 = .ok (.aload_n 2, 1) := by decide +kernel
theorem dL_mixes_1 : decode cL_mixes 1 = .ok (.iconst 0, 1) := by decide +kernel
theorem dL_mixes_2 : decode cL_mixes 2 = .ok (.aload_n 0, 1) := by decide +kernel
theorem dL_mixes_3 : decode cL_mixes 3 = .ok (.iload_n 1, 1) := by decide +kernel
theorem dL_mixes_4 : decode cL_mixes 4 = .ok (.invokevirtual 74, 3) := by decide +kernel
theorem dL_mixes_7 : decode cL_mixes 7 = .ok (.i2l, 1) := by decide +kernel
theorem dL_mixes_8 : decode cL_mixes 8 = .ok (.lastore, 1) := by decide +kernel
theorem dL_mixes_9 : decode cL_mixes 9 = .ok (.goto 6, 3) := by decide +kernel
theorem dL_mixes_12 : decode cL_mixes 12 = .ok (.astore_n 3, 1) := by decide +kernel
theorem dL_mixes_13 : decode cL_mixes 13 = .ok (.iconst 1, 1) := by decide +kernel
theorem dL_mixes_14 : decode cL_mixes 14 = .ok (.ireturn, 1) := by decide +kernel
theorem dL_mixes_15 : decode cL_mixes 15 = .ok (.iconst 0, 1) := by decide +kernel
theorem dL_mixes_16 : decode cL_mixes 16 = .ok (.ireturn, 1) := by decide +kernel
theorem dL_ofFrame_0 : decode cL_ofFrame 0 = .ok (.aload 4, 2) := by decide +kernel
theorem dL_ofFrame_2 : decode cL_ofFrame 2 = .ok (.iconst 0, 1) := by decide +kernel
theorem dL_ofFrame_3 : decode cL_ofFrame 3 = .ok (.aload_n 0, 1) := by decide +kernel
theorem dL_ofFrame_4 : decode cL_ofFrame 4 = .ok (.iload_n 1, 1) := by decide +kernel
theorem dL_ofFrame_5 : decode cL_ofFrame 5 = .ok (.iload_n 2, 1) := by decide +kernel
theorem dL_ofFrame_6 : decode cL_ofFrame 6 = .ok (.iload_n 3, 1) := by decide +kernel
theorem dL_ofFrame_7 : decode cL_ofFrame 7 = .ok (.invokevirtual 77, 3) := by decide +kernel
theorem dL_ofFrame_10 : decode cL_ofFrame 10 = .ok (.i2l, 1) := by decide +kernel
theorem dL_ofFrame_11 : decode cL_ofFrame 11 = .ok (.lastore, 1) := by decide +kernel
theorem dL_ofFrame_12 : decode cL_ofFrame 12 = .ok (.goto 7, 3) := by decide +kernel
theorem dL_ofFrame_15 : decode cL_ofFrame 15 = .ok (.astore 5, 2) := by decide +kernel
theorem dL_ofFrame_17 : decode cL_ofFrame 17 = .ok (.iconst 1, 1) := by decide +kernel
theorem dL_ofFrame_18 : decode cL_ofFrame 18 = .ok (.ireturn, 1) := by decide +kernel
theorem dL_ofFrame_19 : decode cL_ofFrame 19 = .ok (.iconst 0, 1) := by decide +kernel
theorem dL_ofFrame_20 : decode cL_ofFrame 20 = .ok (.ireturn, 1) := by decide +kernel
theorem dL_kept_0 : decode cL_kept 0 = .ok (.aload 4, 2) := by decide +kernel
theorem dL_kept_2 : decode cL_kept 2 = .ok (.iconst 0, 1) := by decide +kernel
theorem dL_kept_3 : decode cL_kept 3 = .ok (.aload_n 0, 1) := by decide +kernel
theorem dL_kept_4 : decode cL_kept 4 = .ok (.iload_n 1, 1) := by decide +kernel
theorem dL_kept_5 : decode cL_kept 5 = .ok (.iload_n 2, 1) := by decide +kernel
theorem dL_kept_6 : decode cL_kept 6 = .ok (.iload_n 3, 1) := by decide +kernel
theorem dL_kept_7 : decode cL_kept 7 = .ok (.invokevirtual 80, 3) := by decide +kernel
theorem dL_kept_10 : decode cL_kept 10 = .ok (.i2l, 1) := by decide +kernel
theorem dL_kept_11 : decode cL_kept 11 = .ok (.lastore, 1) := by decide +kernel
theorem dL_kept_12 : decode cL_kept 12 = .ok (.goto 7, 3) := by decide +kernel
theorem dL_kept_15 : decode cL_kept 15 = .ok (.astore 5, 2) := by decide +kernel
theorem dL_kept_17 : decode cL_kept 17 = .ok (.iconst 1, 1) := by decide +kernel
theorem dL_kept_18 : decode cL_kept 18 = .ok (.ireturn, 1) := by decide +kernel
theorem dL_kept_19 : decode cL_kept 19 = .ok (.iconst 0, 1) := by decide +kernel
theorem dL_kept_20 : decode cL_kept 20 = .ok (.ireturn, 1) := by decide +kernel
theorem dL_count_0 : decode cL_count 0 = .ok (.aload_n 2, 1) := by decide +kernel
theorem dL_count_1 : decode cL_count 1 = .ok (.iconst 0, 1) := by decide +kernel
theorem dL_count_2 : decode cL_count 2 = .ok (.aload_n 0, 1) := by decide +kernel
theorem dL_count_3 : decode cL_count 3 = .ok (.iload_n 1, 1) := by decide +kernel
theorem dL_count_4 : decode cL_count 4 = .ok (.invokevirtual 83, 3) := by decide +kernel
theorem dL_count_7 : decode cL_count 7 = .ok (.i2l, 1) := by decide +kernel
theorem dL_count_8 : decode cL_count 8 = .ok (.lastore, 1) := by decide +kernel
theorem dL_count_9 : decode cL_count 9 = .ok (.goto 6, 3) := by decide +kernel
theorem dL_count_12 : decode cL_count 12 = .ok (.astore_n 3, 1) := by decide +kernel
theorem dL_count_13 : decode cL_count 13 = .ok (.iconst 1, 1) := by decide +kernel
theorem dL_count_14 : decode cL_count 14 = .ok (.ireturn, 1) := by decide +kernel
theorem dL_count_15 : decode cL_count 15 = .ok (.iconst 0, 1) := by decide +kernel
theorem dL_count_16 : decode cL_count 16 = .ok (.ireturn, 1) := by decide +kernel
theorem dL_law_0 : decode cL_law 0 = .ok (.new 8, 3) := by decide +kernel
theorem dL_law_3 : decode cL_law 3 = .ok (.dup, 1) := by decide +kernel
theorem dL_law_4 : decode cL_law 4 = .ok (.invokespecial 86, 3) := by decide +kernel
theorem dL_law_7 : decode cL_law 7 = .ok (.astore_n 1, 1) := by decide +kernel
theorem dL_law_8 : decode cL_law 8 = .ok (.new 87, 3) := by decide +kernel
theorem dL_law_11 : decode cL_law 11 = .ok (.dup, 1) := by decide +kernel
theorem dL_law_12 : decode cL_law 12 = .ok (.invokespecial 89, 3) := by decide +kernel
theorem dL_law_15 : decode cL_law 15 = .ok (.astore_n 2, 1) := by decide +kernel
theorem dL_law_16 : decode cL_law 16 = .ok (.iconst 1, 1) := by decide +kernel
theorem dL_law_17 : decode cL_law 17 = .ok (.newarray .long, 2) := by decide +kernel
theorem dL_law_19 : decode cL_law 19 = .ok (.astore_n 3, 1) := by decide +kernel
theorem dL_law_20 : decode cL_law 20 = .ok (.iconst 0, 1) := by decide +kernel
theorem dL_law_21 : decode cL_law 21 = .ok (.istore 4, 2) := by decide +kernel
theorem dL_law_23 : decode cL_law 23 = .ok (.iload 4, 2) := by decide +kernel
theorem dL_law_25 : decode cL_law 25 = .ok (.aload_n 0, 1) := by decide +kernel
theorem dL_law_26 : decode cL_law 26 = .ok (.arraylength, 1) := by decide +kernel
theorem dL_law_27 : decode cL_law 27 = .ok (.bipush 6, 2) := by decide +kernel
theorem dL_law_29 : decode cL_law 29 = .ok (.isub, 1) := by decide +kernel
theorem dL_law_30 : decode cL_law 30 = .ok (.if_icmp .gt 1618, 3) := by decide +kernel
theorem dL_law_33 : decode cL_law 33 = .ok (.aload_n 0, 1) := by decide +kernel
theorem dL_law_34 : decode cL_law 34 = .ok (.iload 4, 2) := by decide +kernel
theorem dL_law_36 : decode cL_law 36 = .ok (.iaload, 1) := by decide +kernel
theorem dL_law_37 : decode cL_law 37 = .ok (.bipush 31, 2) := by decide +kernel
theorem dL_law_39 : decode cL_law 39 = .ok (.iand, 1) := by decide +kernel
theorem dL_law_40 : decode cL_law 40 = .ok (.tableswitch 1602 0 20 #[100, 144, 212, 316, 403, 459, 551, 643, 711, 767, 871, 951, 1019, 1075, 1143, 1199, 1274, 1330, 1386, 1466, 1546], 100) := by decide +kernel
theorem dL_law_140 : decode cL_law 140 = .ok (.aload_n 1, 1) := by decide +kernel
theorem dL_law_141 : decode cL_law 141 = .ok (.aload_n 3, 1) := by decide +kernel
theorem dL_law_142 : decode cL_law 142 = .ok (.invokestatic 90, 3) := by decide +kernel
theorem dL_law_145 : decode cL_law 145 = .ok (.istore 5, 2) := by decide +kernel
theorem dL_law_147 : decode cL_law 147 = .ok (.aload_n 2, 1) := by decide +kernel
theorem dL_law_148 : decode cL_law 148 = .ok (.invokevirtual 95, 3) := by decide +kernel
theorem dL_law_151 : decode cL_law 151 = .ok (.istore 6, 2) := by decide +kernel
theorem dL_law_153 : decode cL_law 153 = .ok (.aload_n 2, 1) := by decide +kernel
theorem dL_law_154 : decode cL_law 154 = .ok (.invokevirtual 96, 3) := by decide +kernel
theorem dL_law_157 : decode cL_law 157 = .ok (.iload 5, 2) := by decide +kernel
theorem dL_law_159 : decode cL_law 159 = .ok (.if_icmp .eq 5, 3) := by decide +kernel
theorem dL_law_162 : decode cL_law 162 = .ok (.iconst 0, 1) := by decide +kernel
theorem dL_law_163 : decode cL_law 163 = .ok (.ireturn, 1) := by decide +kernel
theorem dL_law_164 : decode cL_law 164 = .ok (.iload 5, 2) := by decide +kernel
theorem dL_law_166 : decode cL_law 166 = .ok (.ifCond .ne 15, 3) := by decide +kernel
theorem dL_law_169 : decode cL_law 169 = .ok (.aload_n 3, 1) := by decide +kernel
theorem dL_law_170 : decode cL_law 170 = .ok (.iconst 0, 1) := by decide +kernel
theorem dL_law_171 : decode cL_law 171 = .ok (.laload, 1) := by decide +kernel
theorem dL_law_172 : decode cL_law 172 = .ok (.iload 6, 2) := by decide +kernel
theorem dL_law_174 : decode cL_law 174 = .ok (.i2l, 1) := by decide +kernel
theorem dL_law_175 : decode cL_law 175 = .ok (.lcmp, 1) := by decide +kernel
theorem dL_law_176 : decode cL_law 176 = .ok (.ifCond .eq 5, 3) := by decide +kernel
theorem dL_law_179 : decode cL_law 179 = .ok (.iconst 0, 1) := by decide +kernel
theorem dL_law_180 : decode cL_law 180 = .ok (.ireturn, 1) := by decide +kernel
theorem dL_law_181 : decode cL_law 181 = .ok (.goto 1461, 3) := by decide +kernel
theorem dL_law_184 : decode cL_law 184 = .ok (.aload_n 1, 1) := by decide +kernel
theorem dL_law_185 : decode cL_law 185 = .ok (.aload_n 0, 1) := by decide +kernel
theorem dL_law_186 : decode cL_law 186 = .ok (.iload 4, 2) := by decide +kernel
theorem dL_law_188 : decode cL_law 188 = .ok (.iconst 1, 1) := by decide +kernel
theorem dL_law_189 : decode cL_law 189 = .ok (.iadd, 1) := by decide +kernel
theorem dL_law_190 : decode cL_law 190 = .ok (.iaload, 1) := by decide +kernel
theorem dL_law_191 : decode cL_law 191 = .ok (.aload_n 0, 1) := by decide +kernel
theorem dL_law_192 : decode cL_law 192 = .ok (.iload 4, 2) := by decide +kernel
theorem dL_law_194 : decode cL_law 194 = .ok (.iconst 2, 1) := by decide +kernel
theorem dL_law_195 : decode cL_law 195 = .ok (.iadd, 1) := by decide +kernel
theorem dL_law_196 : decode cL_law 196 = .ok (.iaload, 1) := by decide +kernel
theorem dL_law_197 : decode cL_law 197 = .ok (.aload_n 3, 1) := by decide +kernel
theorem dL_law_198 : decode cL_law 198 = .ok (.invokestatic 99, 3) := by decide +kernel
theorem dL_law_201 : decode cL_law 201 = .ok (.istore 5, 2) := by decide +kernel
theorem dL_law_203 : decode cL_law 203 = .ok (.aload_n 2, 1) := by decide +kernel
theorem dL_law_204 : decode cL_law 204 = .ok (.aload_n 0, 1) := by decide +kernel
theorem dL_law_205 : decode cL_law 205 = .ok (.iload 4, 2) := by decide +kernel
theorem dL_law_207 : decode cL_law 207 = .ok (.iconst 1, 1) := by decide +kernel
theorem dL_law_208 : decode cL_law 208 = .ok (.iadd, 1) := by decide +kernel
theorem dL_law_209 : decode cL_law 209 = .ok (.iaload, 1) := by decide +kernel
theorem dL_law_210 : decode cL_law 210 = .ok (.aload_n 0, 1) := by decide +kernel
theorem dL_law_211 : decode cL_law 211 = .ok (.iload 4, 2) := by decide +kernel
theorem dL_law_213 : decode cL_law 213 = .ok (.iconst 2, 1) := by decide +kernel
theorem dL_law_214 : decode cL_law 214 = .ok (.iadd, 1) := by decide +kernel
theorem dL_law_215 : decode cL_law 215 = .ok (.iaload, 1) := by decide +kernel
theorem dL_law_216 : decode cL_law 216 = .ok (.invokevirtual 102, 3) := by decide +kernel
theorem dL_law_219 : decode cL_law 219 = .ok (.istore 6, 2) := by decide +kernel
theorem dL_law_221 : decode cL_law 221 = .ok (.aload_n 2, 1) := by decide +kernel
theorem dL_law_222 : decode cL_law 222 = .ok (.invokevirtual 96, 3) := by decide +kernel
theorem dL_law_225 : decode cL_law 225 = .ok (.iload 5, 2) := by decide +kernel
theorem dL_law_227 : decode cL_law 227 = .ok (.if_icmp .eq 5, 3) := by decide +kernel
theorem dL_law_230 : decode cL_law 230 = .ok (.iconst 0, 1) := by decide +kernel
theorem dL_law_231 : decode cL_law 231 = .ok (.ireturn, 1) := by decide +kernel
theorem dL_law_232 : decode cL_law 232 = .ok (.iload 5, 2) := by decide +kernel
theorem dL_law_234 : decode cL_law 234 = .ok (.ifCond .ne 15, 3) := by decide +kernel
theorem dL_law_237 : decode cL_law 237 = .ok (.aload_n 3, 1) := by decide +kernel
theorem dL_law_238 : decode cL_law 238 = .ok (.iconst 0, 1) := by decide +kernel
theorem dL_law_239 : decode cL_law 239 = .ok (.laload, 1) := by decide +kernel
theorem dL_law_240 : decode cL_law 240 = .ok (.iload 6, 2) := by decide +kernel
theorem dL_law_242 : decode cL_law 242 = .ok (.i2l, 1) := by decide +kernel
theorem dL_law_243 : decode cL_law 243 = .ok (.lcmp, 1) := by decide +kernel
theorem dL_law_244 : decode cL_law 244 = .ok (.ifCond .eq 5, 3) := by decide +kernel
theorem dL_law_247 : decode cL_law 247 = .ok (.iconst 0, 1) := by decide +kernel
theorem dL_law_248 : decode cL_law 248 = .ok (.ireturn, 1) := by decide +kernel
theorem dL_law_249 : decode cL_law 249 = .ok (.goto 1393, 3) := by decide +kernel
theorem dL_law_252 : decode cL_law 252 = .ok (.aload_n 1, 1) := by decide +kernel
theorem dL_law_253 : decode cL_law 253 = .ok (.aload_n 0, 1) := by decide +kernel
theorem dL_law_254 : decode cL_law 254 = .ok (.iload 4, 2) := by decide +kernel
theorem dL_law_256 : decode cL_law 256 = .ok (.iconst 1, 1) := by decide +kernel
theorem dL_law_257 : decode cL_law 257 = .ok (.iadd, 1) := by decide +kernel
theorem dL_law_258 : decode cL_law 258 = .ok (.iaload, 1) := by decide +kernel
theorem dL_law_259 : decode cL_law 259 = .ok (.aload_n 0, 1) := by decide +kernel
theorem dL_law_260 : decode cL_law 260 = .ok (.iload 4, 2) := by decide +kernel
theorem dL_law_262 : decode cL_law 262 = .ok (.iconst 2, 1) := by decide +kernel
theorem dL_law_263 : decode cL_law 263 = .ok (.iadd, 1) := by decide +kernel
theorem dL_law_264 : decode cL_law 264 = .ok (.iaload, 1) := by decide +kernel
theorem dL_law_265 : decode cL_law 265 = .ok (.aload_n 0, 1) := by decide +kernel
theorem dL_law_266 : decode cL_law 266 = .ok (.iload 4, 2) := by decide +kernel
theorem dL_law_268 : decode cL_law 268 = .ok (.iconst 3, 1) := by decide +kernel
theorem dL_law_269 : decode cL_law 269 = .ok (.iadd, 1) := by decide +kernel
theorem dL_law_270 : decode cL_law 270 = .ok (.iaload, 1) := by decide +kernel
theorem dL_law_271 : decode cL_law 271 = .ok (.aload_n 0, 1) := by decide +kernel
theorem dL_law_272 : decode cL_law 272 = .ok (.iload 4, 2) := by decide +kernel
theorem dL_law_274 : decode cL_law 274 = .ok (.iconst 4, 1) := by decide +kernel
theorem dL_law_275 : decode cL_law 275 = .ok (.iadd, 1) := by decide +kernel
theorem dL_law_276 : decode cL_law 276 = .ok (.iaload, 1) := by decide +kernel
theorem dL_law_277 : decode cL_law 277 = .ok (.aload_n 0, 1) := by decide +kernel
theorem dL_law_278 : decode cL_law 278 = .ok (.iload 4, 2) := by decide +kernel
theorem dL_law_280 : decode cL_law 280 = .ok (.iconst 5, 1) := by decide +kernel
theorem dL_law_281 : decode cL_law 281 = .ok (.iadd, 1) := by decide +kernel
theorem dL_law_282 : decode cL_law 282 = .ok (.iaload, 1) := by decide +kernel
theorem dL_law_283 : decode cL_law 283 = .ok (.aload_n 3, 1) := by decide +kernel
theorem dL_law_284 : decode cL_law 284 = .ok (.invokestatic 103, 3) := by decide +kernel
theorem dL_law_287 : decode cL_law 287 = .ok (.istore 5, 2) := by decide +kernel
theorem dL_law_289 : decode cL_law 289 = .ok (.aload_n 2, 1) := by decide +kernel
theorem dL_law_290 : decode cL_law 290 = .ok (.aload_n 0, 1) := by decide +kernel
theorem dL_law_291 : decode cL_law 291 = .ok (.iload 4, 2) := by decide +kernel
theorem dL_law_293 : decode cL_law 293 = .ok (.iconst 1, 1) := by decide +kernel
theorem dL_law_294 : decode cL_law 294 = .ok (.iadd, 1) := by decide +kernel
theorem dL_law_295 : decode cL_law 295 = .ok (.iaload, 1) := by decide +kernel
theorem dL_law_296 : decode cL_law 296 = .ok (.aload_n 0, 1) := by decide +kernel
theorem dL_law_297 : decode cL_law 297 = .ok (.iload 4, 2) := by decide +kernel
theorem dL_law_299 : decode cL_law 299 = .ok (.iconst 2, 1) := by decide +kernel
theorem dL_law_300 : decode cL_law 300 = .ok (.iadd, 1) := by decide +kernel
theorem dL_law_301 : decode cL_law 301 = .ok (.iaload, 1) := by decide +kernel
theorem dL_law_302 : decode cL_law 302 = .ok (.aload_n 0, 1) := by decide +kernel
theorem dL_law_303 : decode cL_law 303 = .ok (.iload 4, 2) := by decide +kernel
theorem dL_law_305 : decode cL_law 305 = .ok (.iconst 3, 1) := by decide +kernel
theorem dL_law_306 : decode cL_law 306 = .ok (.iadd, 1) := by decide +kernel
theorem dL_law_307 : decode cL_law 307 = .ok (.iaload, 1) := by decide +kernel
theorem dL_law_308 : decode cL_law 308 = .ok (.aload_n 0, 1) := by decide +kernel
theorem dL_law_309 : decode cL_law 309 = .ok (.iload 4, 2) := by decide +kernel
theorem dL_law_311 : decode cL_law 311 = .ok (.iconst 4, 1) := by decide +kernel
theorem dL_law_312 : decode cL_law 312 = .ok (.iadd, 1) := by decide +kernel
theorem dL_law_313 : decode cL_law 313 = .ok (.iaload, 1) := by decide +kernel
theorem dL_law_314 : decode cL_law 314 = .ok (.aload_n 0, 1) := by decide +kernel
theorem dL_law_315 : decode cL_law 315 = .ok (.iload 4, 2) := by decide +kernel
theorem dL_law_317 : decode cL_law 317 = .ok (.iconst 5, 1) := by decide +kernel
theorem dL_law_318 : decode cL_law 318 = .ok (.iadd, 1) := by decide +kernel
theorem dL_law_319 : decode cL_law 319 = .ok (.iaload, 1) := by decide +kernel
theorem dL_law_320 : decode cL_law 320 = .ok (.invokevirtual 106, 3) := by decide +kernel
theorem dL_law_323 : decode cL_law 323 = .ok (.istore 6, 2) := by decide +kernel
theorem dL_law_325 : decode cL_law 325 = .ok (.aload_n 2, 1) := by decide +kernel
theorem dL_law_326 : decode cL_law 326 = .ok (.invokevirtual 96, 3) := by decide +kernel
theorem dL_law_329 : decode cL_law 329 = .ok (.iload 5, 2) := by decide +kernel
theorem dL_law_331 : decode cL_law 331 = .ok (.if_icmp .eq 5, 3) := by decide +kernel
theorem dL_law_334 : decode cL_law 334 = .ok (.iconst 0, 1) := by decide +kernel
theorem dL_law_335 : decode cL_law 335 = .ok (.ireturn, 1) := by decide +kernel
theorem dL_law_336 : decode cL_law 336 = .ok (.iload 5, 2) := by decide +kernel
theorem dL_law_338 : decode cL_law 338 = .ok (.ifCond .ne 15, 3) := by decide +kernel
theorem dL_law_341 : decode cL_law 341 = .ok (.aload_n 3, 1) := by decide +kernel
theorem dL_law_342 : decode cL_law 342 = .ok (.iconst 0, 1) := by decide +kernel
theorem dL_law_343 : decode cL_law 343 = .ok (.laload, 1) := by decide +kernel
theorem dL_law_344 : decode cL_law 344 = .ok (.iload 6, 2) := by decide +kernel
theorem dL_law_346 : decode cL_law 346 = .ok (.i2l, 1) := by decide +kernel
theorem dL_law_347 : decode cL_law 347 = .ok (.lcmp, 1) := by decide +kernel
theorem dL_law_348 : decode cL_law 348 = .ok (.ifCond .eq 5, 3) := by decide +kernel
theorem dL_law_351 : decode cL_law 351 = .ok (.iconst 0, 1) := by decide +kernel
theorem dL_law_352 : decode cL_law 352 = .ok (.ireturn, 1) := by decide +kernel
theorem dL_law_353 : decode cL_law 353 = .ok (.goto 1289, 3) := by decide +kernel
theorem dL_law_356 : decode cL_law 356 = .ok (.aload_n 1, 1) := by decide +kernel
theorem dL_law_357 : decode cL_law 357 = .ok (.aload_n 0, 1) := by decide +kernel
theorem dL_law_358 : decode cL_law 358 = .ok (.iload 4, 2) := by decide +kernel
theorem dL_law_360 : decode cL_law 360 = .ok (.iconst 1, 1) := by decide +kernel
theorem dL_law_361 : decode cL_law 361 = .ok (.iadd, 1) := by decide +kernel
theorem dL_law_362 : decode cL_law 362 = .ok (.iaload, 1) := by decide +kernel
theorem dL_law_363 : decode cL_law 363 = .ok (.aload_n 0, 1) := by decide +kernel
theorem dL_law_364 : decode cL_law 364 = .ok (.iload 4, 2) := by decide +kernel
theorem dL_law_366 : decode cL_law 366 = .ok (.iconst 2, 1) := by decide +kernel
theorem dL_law_367 : decode cL_law 367 = .ok (.iadd, 1) := by decide +kernel
theorem dL_law_368 : decode cL_law 368 = .ok (.iaload, 1) := by decide +kernel
theorem dL_law_369 : decode cL_law 369 = .ok (.aload_n 0, 1) := by decide +kernel
theorem dL_law_370 : decode cL_law 370 = .ok (.iload 4, 2) := by decide +kernel
theorem dL_law_372 : decode cL_law 372 = .ok (.iconst 3, 1) := by decide +kernel
theorem dL_law_373 : decode cL_law 373 = .ok (.iadd, 1) := by decide +kernel
theorem dL_law_374 : decode cL_law 374 = .ok (.iaload, 1) := by decide +kernel
theorem dL_law_375 : decode cL_law 375 = .ok (.aload_n 3, 1) := by decide +kernel
theorem dL_law_376 : decode cL_law 376 = .ok (.invokestatic 107, 3) := by decide +kernel
theorem dL_law_379 : decode cL_law 379 = .ok (.istore 5, 2) := by decide +kernel
theorem dL_law_381 : decode cL_law 381 = .ok (.aload_n 2, 1) := by decide +kernel
theorem dL_law_382 : decode cL_law 382 = .ok (.aload_n 0, 1) := by decide +kernel
theorem dL_law_383 : decode cL_law 383 = .ok (.iload 4, 2) := by decide +kernel
theorem dL_law_385 : decode cL_law 385 = .ok (.iconst 1, 1) := by decide +kernel
theorem dL_law_386 : decode cL_law 386 = .ok (.iadd, 1) := by decide +kernel
theorem dL_law_387 : decode cL_law 387 = .ok (.iaload, 1) := by decide +kernel
theorem dL_law_388 : decode cL_law 388 = .ok (.aload_n 0, 1) := by decide +kernel
theorem dL_law_389 : decode cL_law 389 = .ok (.iload 4, 2) := by decide +kernel
theorem dL_law_391 : decode cL_law 391 = .ok (.iconst 2, 1) := by decide +kernel
theorem dL_law_392 : decode cL_law 392 = .ok (.iadd, 1) := by decide +kernel
theorem dL_law_393 : decode cL_law 393 = .ok (.iaload, 1) := by decide +kernel
theorem dL_law_394 : decode cL_law 394 = .ok (.aload_n 0, 1) := by decide +kernel
theorem dL_law_395 : decode cL_law 395 = .ok (.iload 4, 2) := by decide +kernel
theorem dL_law_397 : decode cL_law 397 = .ok (.iconst 3, 1) := by decide +kernel
theorem dL_law_398 : decode cL_law 398 = .ok (.iadd, 1) := by decide +kernel
theorem dL_law_399 : decode cL_law 399 = .ok (.iaload, 1) := by decide +kernel
theorem dL_law_400 : decode cL_law 400 = .ok (.invokevirtual 110, 3) := by decide +kernel
theorem dL_law_403 : decode cL_law 403 = .ok (.istore 6, 2) := by decide +kernel
theorem dL_law_405 : decode cL_law 405 = .ok (.aload_n 2, 1) := by decide +kernel
theorem dL_law_406 : decode cL_law 406 = .ok (.invokevirtual 96, 3) := by decide +kernel
theorem dL_law_409 : decode cL_law 409 = .ok (.iload 5, 2) := by decide +kernel
theorem dL_law_411 : decode cL_law 411 = .ok (.if_icmp .eq 5, 3) := by decide +kernel
theorem dL_law_414 : decode cL_law 414 = .ok (.iconst 0, 1) := by decide +kernel
theorem dL_law_415 : decode cL_law 415 = .ok (.ireturn, 1) := by decide +kernel
theorem dL_law_416 : decode cL_law 416 = .ok (.iload 5, 2) := by decide +kernel
theorem dL_law_418 : decode cL_law 418 = .ok (.ifCond .ne 22, 3) := by decide +kernel
theorem dL_law_421 : decode cL_law 421 = .ok (.aload_n 3, 1) := by decide +kernel
theorem dL_law_422 : decode cL_law 422 = .ok (.iconst 0, 1) := by decide +kernel
theorem dL_law_423 : decode cL_law 423 = .ok (.laload, 1) := by decide +kernel
theorem dL_law_424 : decode cL_law 424 = .ok (.iload 6, 2) := by decide +kernel
theorem dL_law_426 : decode cL_law 426 = .ok (.ifCond .eq 7, 3) := by decide +kernel
theorem dL_law_429 : decode cL_law 429 = .ok (.lconst 1, 1) := by decide +kernel
theorem dL_law_430 : decode cL_law 430 = .ok (.goto 4, 3) := by decide +kernel
theorem dL_law_433 : decode cL_law 433 = .ok (.lconst 0, 1) := by decide +kernel
theorem dL_law_434 : decode cL_law 434 = .ok (.lcmp, 1) := by decide +kernel
theorem dL_law_435 : decode cL_law 435 = .ok (.ifCond .eq 5, 3) := by decide +kernel
theorem dL_law_438 : decode cL_law 438 = .ok (.iconst 0, 1) := by decide +kernel
theorem dL_law_439 : decode cL_law 439 = .ok (.ireturn, 1) := by decide +kernel
theorem dL_law_440 : decode cL_law 440 = .ok (.goto 1202, 3) := by decide +kernel
theorem dL_law_443 : decode cL_law 443 = .ok (.aload_n 1, 1) := by decide +kernel
theorem dL_law_444 : decode cL_law 444 = .ok (.aload_n 0, 1) := by decide +kernel
theorem dL_law_445 : decode cL_law 445 = .ok (.iload 4, 2) := by decide +kernel
theorem dL_law_447 : decode cL_law 447 = .ok (.iconst 1, 1) := by decide +kernel
theorem dL_law_448 : decode cL_law 448 = .ok (.iadd, 1) := by decide +kernel
theorem dL_law_449 : decode cL_law 449 = .ok (.iaload, 1) := by decide +kernel
theorem dL_law_450 : decode cL_law 450 = .ok (.aload_n 3, 1) := by decide +kernel
theorem dL_law_451 : decode cL_law 451 = .ok (.invokestatic 111, 3) := by decide +kernel
theorem dL_law_454 : decode cL_law 454 = .ok (.istore 5, 2) := by decide +kernel
theorem dL_law_456 : decode cL_law 456 = .ok (.aload_n 2, 1) := by decide +kernel
theorem dL_law_457 : decode cL_law 457 = .ok (.aload_n 0, 1) := by decide +kernel
theorem dL_law_458 : decode cL_law 458 = .ok (.iload 4, 2) := by decide +kernel
theorem dL_law_460 : decode cL_law 460 = .ok (.iconst 1, 1) := by decide +kernel
theorem dL_law_461 : decode cL_law 461 = .ok (.iadd, 1) := by decide +kernel
theorem dL_law_462 : decode cL_law 462 = .ok (.iaload, 1) := by decide +kernel
theorem dL_law_463 : decode cL_law 463 = .ok (.invokevirtual 114, 3) := by decide +kernel
theorem dL_law_466 : decode cL_law 466 = .ok (.istore 6, 2) := by decide +kernel
theorem dL_law_468 : decode cL_law 468 = .ok (.aload_n 2, 1) := by decide +kernel
theorem dL_law_469 : decode cL_law 469 = .ok (.invokevirtual 96, 3) := by decide +kernel
theorem dL_law_472 : decode cL_law 472 = .ok (.iload 5, 2) := by decide +kernel
theorem dL_law_474 : decode cL_law 474 = .ok (.if_icmp .eq 5, 3) := by decide +kernel
theorem dL_law_477 : decode cL_law 477 = .ok (.iconst 0, 1) := by decide +kernel
theorem dL_law_478 : decode cL_law 478 = .ok (.ireturn, 1) := by decide +kernel
theorem dL_law_479 : decode cL_law 479 = .ok (.iload 5, 2) := by decide +kernel
theorem dL_law_481 : decode cL_law 481 = .ok (.ifCond .ne 15, 3) := by decide +kernel
theorem dL_law_484 : decode cL_law 484 = .ok (.aload_n 3, 1) := by decide +kernel
theorem dL_law_485 : decode cL_law 485 = .ok (.iconst 0, 1) := by decide +kernel
theorem dL_law_486 : decode cL_law 486 = .ok (.laload, 1) := by decide +kernel
theorem dL_law_487 : decode cL_law 487 = .ok (.iload 6, 2) := by decide +kernel
theorem dL_law_489 : decode cL_law 489 = .ok (.i2l, 1) := by decide +kernel
theorem dL_law_490 : decode cL_law 490 = .ok (.lcmp, 1) := by decide +kernel
theorem dL_law_491 : decode cL_law 491 = .ok (.ifCond .eq 5, 3) := by decide +kernel
theorem dL_law_494 : decode cL_law 494 = .ok (.iconst 0, 1) := by decide +kernel
theorem dL_law_495 : decode cL_law 495 = .ok (.ireturn, 1) := by decide +kernel
theorem dL_law_496 : decode cL_law 496 = .ok (.goto 1146, 3) := by decide +kernel
theorem dL_law_499 : decode cL_law 499 = .ok (.aload_n 1, 1) := by decide +kernel
theorem dL_law_500 : decode cL_law 500 = .ok (.aload_n 0, 1) := by decide +kernel
theorem dL_law_501 : decode cL_law 501 = .ok (.iload 4, 2) := by decide +kernel
theorem dL_law_503 : decode cL_law 503 = .ok (.iconst 1, 1) := by decide +kernel
theorem dL_law_504 : decode cL_law 504 = .ok (.iadd, 1) := by decide +kernel
theorem dL_law_505 : decode cL_law 505 = .ok (.iaload, 1) := by decide +kernel
theorem dL_law_506 : decode cL_law 506 = .ok (.aload_n 0, 1) := by decide +kernel
theorem dL_law_507 : decode cL_law 507 = .ok (.iload 4, 2) := by decide +kernel
theorem dL_law_509 : decode cL_law 509 = .ok (.iconst 2, 1) := by decide +kernel
theorem dL_law_510 : decode cL_law 510 = .ok (.iadd, 1) := by decide +kernel
theorem dL_law_511 : decode cL_law 511 = .ok (.iaload, 1) := by decide +kernel
theorem dL_law_512 : decode cL_law 512 = .ok (.aload_n 0, 1) := by decide +kernel
theorem dL_law_513 : decode cL_law 513 = .ok (.iload 4, 2) := by decide +kernel
theorem dL_law_515 : decode cL_law 515 = .ok (.iconst 3, 1) := by decide +kernel
theorem dL_law_516 : decode cL_law 516 = .ok (.iadd, 1) := by decide +kernel
theorem dL_law_517 : decode cL_law 517 = .ok (.iaload, 1) := by decide +kernel
theorem dL_law_518 : decode cL_law 518 = .ok (.aload_n 0, 1) := by decide +kernel
theorem dL_law_519 : decode cL_law 519 = .ok (.iload 4, 2) := by decide +kernel
theorem dL_law_521 : decode cL_law 521 = .ok (.iconst 4, 1) := by decide +kernel
theorem dL_law_522 : decode cL_law 522 = .ok (.iadd, 1) := by decide +kernel
theorem dL_law_523 : decode cL_law 523 = .ok (.iaload, 1) := by decide +kernel
theorem dL_law_524 : decode cL_law 524 = .ok (.aload_n 3, 1) := by decide +kernel
theorem dL_law_525 : decode cL_law 525 = .ok (.invokestatic 115, 3) := by decide +kernel
theorem dL_law_528 : decode cL_law 528 = .ok (.istore 5, 2) := by decide +kernel
theorem dL_law_530 : decode cL_law 530 = .ok (.aload_n 2, 1) := by decide +kernel
theorem dL_law_531 : decode cL_law 531 = .ok (.aload_n 0, 1) := by decide +kernel
theorem dL_law_532 : decode cL_law 532 = .ok (.iload 4, 2) := by decide +kernel
theorem dL_law_534 : decode cL_law 534 = .ok (.iconst 1, 1) := by decide +kernel
theorem dL_law_535 : decode cL_law 535 = .ok (.iadd, 1) := by decide +kernel
theorem dL_law_536 : decode cL_law 536 = .ok (.iaload, 1) := by decide +kernel
theorem dL_law_537 : decode cL_law 537 = .ok (.aload_n 0, 1) := by decide +kernel
theorem dL_law_538 : decode cL_law 538 = .ok (.iload 4, 2) := by decide +kernel
theorem dL_law_540 : decode cL_law 540 = .ok (.iconst 2, 1) := by decide +kernel
theorem dL_law_541 : decode cL_law 541 = .ok (.iadd, 1) := by decide +kernel
theorem dL_law_542 : decode cL_law 542 = .ok (.iaload, 1) := by decide +kernel
theorem dL_law_543 : decode cL_law 543 = .ok (.aload_n 0, 1) := by decide +kernel
theorem dL_law_544 : decode cL_law 544 = .ok (.iload 4, 2) := by decide +kernel
theorem dL_law_546 : decode cL_law 546 = .ok (.iconst 3, 1) := by decide +kernel
theorem dL_law_547 : decode cL_law 547 = .ok (.iadd, 1) := by decide +kernel
theorem dL_law_548 : decode cL_law 548 = .ok (.iaload, 1) := by decide +kernel
theorem dL_law_549 : decode cL_law 549 = .ok (.aload_n 0, 1) := by decide +kernel
theorem dL_law_550 : decode cL_law 550 = .ok (.iload 4, 2) := by decide +kernel
theorem dL_law_552 : decode cL_law 552 = .ok (.iconst 4, 1) := by decide +kernel
theorem dL_law_553 : decode cL_law 553 = .ok (.iadd, 1) := by decide +kernel
theorem dL_law_554 : decode cL_law 554 = .ok (.iaload, 1) := by decide +kernel
theorem dL_law_555 : decode cL_law 555 = .ok (.invokevirtual 118, 3) := by decide +kernel
theorem dL_law_558 : decode cL_law 558 = .ok (.istore 6, 2) := by decide +kernel
theorem dL_law_560 : decode cL_law 560 = .ok (.aload_n 2, 1) := by decide +kernel
theorem dL_law_561 : decode cL_law 561 = .ok (.invokevirtual 96, 3) := by decide +kernel
theorem dL_law_564 : decode cL_law 564 = .ok (.iload 5, 2) := by decide +kernel
theorem dL_law_566 : decode cL_law 566 = .ok (.if_icmp .eq 5, 3) := by decide +kernel
theorem dL_law_569 : decode cL_law 569 = .ok (.iconst 0, 1) := by decide +kernel
theorem dL_law_570 : decode cL_law 570 = .ok (.ireturn, 1) := by decide +kernel
theorem dL_law_571 : decode cL_law 571 = .ok (.iload 5, 2) := by decide +kernel
theorem dL_law_573 : decode cL_law 573 = .ok (.ifCond .ne 15, 3) := by decide +kernel
theorem dL_law_576 : decode cL_law 576 = .ok (.aload_n 3, 1) := by decide +kernel
theorem dL_law_577 : decode cL_law 577 = .ok (.iconst 0, 1) := by decide +kernel
theorem dL_law_578 : decode cL_law 578 = .ok (.laload, 1) := by decide +kernel
theorem dL_law_579 : decode cL_law 579 = .ok (.iload 6, 2) := by decide +kernel
theorem dL_law_581 : decode cL_law 581 = .ok (.i2l, 1) := by decide +kernel
theorem dL_law_582 : decode cL_law 582 = .ok (.lcmp, 1) := by decide +kernel
theorem dL_law_583 : decode cL_law 583 = .ok (.ifCond .eq 5, 3) := by decide +kernel
theorem dL_law_586 : decode cL_law 586 = .ok (.iconst 0, 1) := by decide +kernel
theorem dL_law_587 : decode cL_law 587 = .ok (.ireturn, 1) := by decide +kernel
theorem dL_law_588 : decode cL_law 588 = .ok (.goto 1054, 3) := by decide +kernel
theorem dL_law_591 : decode cL_law 591 = .ok (.aload_n 1, 1) := by decide +kernel
theorem dL_law_592 : decode cL_law 592 = .ok (.aload_n 0, 1) := by decide +kernel
theorem dL_law_593 : decode cL_law 593 = .ok (.iload 4, 2) := by decide +kernel
theorem dL_law_595 : decode cL_law 595 = .ok (.iconst 1, 1) := by decide +kernel
theorem dL_law_596 : decode cL_law 596 = .ok (.iadd, 1) := by decide +kernel
theorem dL_law_597 : decode cL_law 597 = .ok (.iaload, 1) := by decide +kernel
theorem dL_law_598 : decode cL_law 598 = .ok (.aload_n 0, 1) := by decide +kernel
theorem dL_law_599 : decode cL_law 599 = .ok (.iload 4, 2) := by decide +kernel
theorem dL_law_601 : decode cL_law 601 = .ok (.iconst 2, 1) := by decide +kernel
theorem dL_law_602 : decode cL_law 602 = .ok (.iadd, 1) := by decide +kernel
theorem dL_law_603 : decode cL_law 603 = .ok (.iaload, 1) := by decide +kernel
theorem dL_law_604 : decode cL_law 604 = .ok (.aload_n 0, 1) := by decide +kernel
theorem dL_law_605 : decode cL_law 605 = .ok (.iload 4, 2) := by decide +kernel
theorem dL_law_607 : decode cL_law 607 = .ok (.iconst 3, 1) := by decide +kernel
theorem dL_law_608 : decode cL_law 608 = .ok (.iadd, 1) := by decide +kernel
theorem dL_law_609 : decode cL_law 609 = .ok (.iaload, 1) := by decide +kernel
theorem dL_law_610 : decode cL_law 610 = .ok (.aload_n 0, 1) := by decide +kernel
theorem dL_law_611 : decode cL_law 611 = .ok (.iload 4, 2) := by decide +kernel
theorem dL_law_613 : decode cL_law 613 = .ok (.iconst 4, 1) := by decide +kernel
theorem dL_law_614 : decode cL_law 614 = .ok (.iadd, 1) := by decide +kernel
theorem dL_law_615 : decode cL_law 615 = .ok (.iaload, 1) := by decide +kernel
theorem dL_law_616 : decode cL_law 616 = .ok (.aload_n 3, 1) := by decide +kernel
theorem dL_law_617 : decode cL_law 617 = .ok (.invokestatic 119, 3) := by decide +kernel
theorem dL_law_620 : decode cL_law 620 = .ok (.istore 5, 2) := by decide +kernel
theorem dL_law_622 : decode cL_law 622 = .ok (.aload_n 2, 1) := by decide +kernel
theorem dL_law_623 : decode cL_law 623 = .ok (.aload_n 0, 1) := by decide +kernel
theorem dL_law_624 : decode cL_law 624 = .ok (.iload 4, 2) := by decide +kernel
theorem dL_law_626 : decode cL_law 626 = .ok (.iconst 1, 1) := by decide +kernel
theorem dL_law_627 : decode cL_law 627 = .ok (.iadd, 1) := by decide +kernel
theorem dL_law_628 : decode cL_law 628 = .ok (.iaload, 1) := by decide +kernel
theorem dL_law_629 : decode cL_law 629 = .ok (.aload_n 0, 1) := by decide +kernel
theorem dL_law_630 : decode cL_law 630 = .ok (.iload 4, 2) := by decide +kernel
theorem dL_law_632 : decode cL_law 632 = .ok (.iconst 2, 1) := by decide +kernel
theorem dL_law_633 : decode cL_law 633 = .ok (.iadd, 1) := by decide +kernel
theorem dL_law_634 : decode cL_law 634 = .ok (.iaload, 1) := by decide +kernel
theorem dL_law_635 : decode cL_law 635 = .ok (.aload_n 0, 1) := by decide +kernel
theorem dL_law_636 : decode cL_law 636 = .ok (.iload 4, 2) := by decide +kernel
theorem dL_law_638 : decode cL_law 638 = .ok (.iconst 3, 1) := by decide +kernel
theorem dL_law_639 : decode cL_law 639 = .ok (.iadd, 1) := by decide +kernel
theorem dL_law_640 : decode cL_law 640 = .ok (.iaload, 1) := by decide +kernel
theorem dL_law_641 : decode cL_law 641 = .ok (.aload_n 0, 1) := by decide +kernel
theorem dL_law_642 : decode cL_law 642 = .ok (.iload 4, 2) := by decide +kernel
theorem dL_law_644 : decode cL_law 644 = .ok (.iconst 4, 1) := by decide +kernel
theorem dL_law_645 : decode cL_law 645 = .ok (.iadd, 1) := by decide +kernel
theorem dL_law_646 : decode cL_law 646 = .ok (.iaload, 1) := by decide +kernel
theorem dL_law_647 : decode cL_law 647 = .ok (.invokevirtual 121, 3) := by decide +kernel
theorem dL_law_650 : decode cL_law 650 = .ok (.istore 6, 2) := by decide +kernel
theorem dL_law_652 : decode cL_law 652 = .ok (.aload_n 2, 1) := by decide +kernel
theorem dL_law_653 : decode cL_law 653 = .ok (.invokevirtual 96, 3) := by decide +kernel
theorem dL_law_656 : decode cL_law 656 = .ok (.iload 5, 2) := by decide +kernel
theorem dL_law_658 : decode cL_law 658 = .ok (.if_icmp .eq 5, 3) := by decide +kernel
theorem dL_law_661 : decode cL_law 661 = .ok (.iconst 0, 1) := by decide +kernel
theorem dL_law_662 : decode cL_law 662 = .ok (.ireturn, 1) := by decide +kernel
theorem dL_law_663 : decode cL_law 663 = .ok (.iload 5, 2) := by decide +kernel
theorem dL_law_665 : decode cL_law 665 = .ok (.ifCond .ne 15, 3) := by decide +kernel
theorem dL_law_668 : decode cL_law 668 = .ok (.aload_n 3, 1) := by decide +kernel
theorem dL_law_669 : decode cL_law 669 = .ok (.iconst 0, 1) := by decide +kernel
theorem dL_law_670 : decode cL_law 670 = .ok (.laload, 1) := by decide +kernel
theorem dL_law_671 : decode cL_law 671 = .ok (.iload 6, 2) := by decide +kernel
theorem dL_law_673 : decode cL_law 673 = .ok (.i2l, 1) := by decide +kernel
theorem dL_law_674 : decode cL_law 674 = .ok (.lcmp, 1) := by decide +kernel
theorem dL_law_675 : decode cL_law 675 = .ok (.ifCond .eq 5, 3) := by decide +kernel
theorem dL_law_678 : decode cL_law 678 = .ok (.iconst 0, 1) := by decide +kernel
theorem dL_law_679 : decode cL_law 679 = .ok (.ireturn, 1) := by decide +kernel
theorem dL_law_680 : decode cL_law 680 = .ok (.goto 962, 3) := by decide +kernel
theorem dL_law_683 : decode cL_law 683 = .ok (.aload_n 1, 1) := by decide +kernel
theorem dL_law_684 : decode cL_law 684 = .ok (.aload_n 0, 1) := by decide +kernel
theorem dL_law_685 : decode cL_law 685 = .ok (.iload 4, 2) := by decide +kernel
theorem dL_law_687 : decode cL_law 687 = .ok (.iconst 1, 1) := by decide +kernel
theorem dL_law_688 : decode cL_law 688 = .ok (.iadd, 1) := by decide +kernel
theorem dL_law_689 : decode cL_law 689 = .ok (.iaload, 1) := by decide +kernel
theorem dL_law_690 : decode cL_law 690 = .ok (.aload_n 0, 1) := by decide +kernel
theorem dL_law_691 : decode cL_law 691 = .ok (.iload 4, 2) := by decide +kernel
theorem dL_law_693 : decode cL_law 693 = .ok (.iconst 2, 1) := by decide +kernel
theorem dL_law_694 : decode cL_law 694 = .ok (.iadd, 1) := by decide +kernel
theorem dL_law_695 : decode cL_law 695 = .ok (.iaload, 1) := by decide +kernel
theorem dL_law_696 : decode cL_law 696 = .ok (.aload_n 3, 1) := by decide +kernel
theorem dL_law_697 : decode cL_law 697 = .ok (.invokestatic 122, 3) := by decide +kernel
theorem dL_law_700 : decode cL_law 700 = .ok (.istore 5, 2) := by decide +kernel
theorem dL_law_702 : decode cL_law 702 = .ok (.aload_n 2, 1) := by decide +kernel
theorem dL_law_703 : decode cL_law 703 = .ok (.aload_n 0, 1) := by decide +kernel
theorem dL_law_704 : decode cL_law 704 = .ok (.iload 4, 2) := by decide +kernel
theorem dL_law_706 : decode cL_law 706 = .ok (.iconst 1, 1) := by decide +kernel
theorem dL_law_707 : decode cL_law 707 = .ok (.iadd, 1) := by decide +kernel
theorem dL_law_708 : decode cL_law 708 = .ok (.iaload, 1) := by decide +kernel
theorem dL_law_709 : decode cL_law 709 = .ok (.aload_n 0, 1) := by decide +kernel
theorem dL_law_710 : decode cL_law 710 = .ok (.iload 4, 2) := by decide +kernel
theorem dL_law_712 : decode cL_law 712 = .ok (.iconst 2, 1) := by decide +kernel
theorem dL_law_713 : decode cL_law 713 = .ok (.iadd, 1) := by decide +kernel
theorem dL_law_714 : decode cL_law 714 = .ok (.iaload, 1) := by decide +kernel
theorem dL_law_715 : decode cL_law 715 = .ok (.invokevirtual 124, 3) := by decide +kernel
theorem dL_law_718 : decode cL_law 718 = .ok (.istore 6, 2) := by decide +kernel
theorem dL_law_720 : decode cL_law 720 = .ok (.aload_n 2, 1) := by decide +kernel
theorem dL_law_721 : decode cL_law 721 = .ok (.invokevirtual 96, 3) := by decide +kernel
theorem dL_law_724 : decode cL_law 724 = .ok (.iload 5, 2) := by decide +kernel
theorem dL_law_726 : decode cL_law 726 = .ok (.if_icmp .eq 5, 3) := by decide +kernel
theorem dL_law_729 : decode cL_law 729 = .ok (.iconst 0, 1) := by decide +kernel
theorem dL_law_730 : decode cL_law 730 = .ok (.ireturn, 1) := by decide +kernel
theorem dL_law_731 : decode cL_law 731 = .ok (.iload 5, 2) := by decide +kernel
theorem dL_law_733 : decode cL_law 733 = .ok (.ifCond .ne 15, 3) := by decide +kernel
theorem dL_law_736 : decode cL_law 736 = .ok (.aload_n 3, 1) := by decide +kernel
theorem dL_law_737 : decode cL_law 737 = .ok (.iconst 0, 1) := by decide +kernel
theorem dL_law_738 : decode cL_law 738 = .ok (.laload, 1) := by decide +kernel
theorem dL_law_739 : decode cL_law 739 = .ok (.iload 6, 2) := by decide +kernel
theorem dL_law_741 : decode cL_law 741 = .ok (.i2l, 1) := by decide +kernel
theorem dL_law_742 : decode cL_law 742 = .ok (.lcmp, 1) := by decide +kernel
theorem dL_law_743 : decode cL_law 743 = .ok (.ifCond .eq 5, 3) := by decide +kernel
theorem dL_law_746 : decode cL_law 746 = .ok (.iconst 0, 1) := by decide +kernel
theorem dL_law_747 : decode cL_law 747 = .ok (.ireturn, 1) := by decide +kernel
theorem dL_law_748 : decode cL_law 748 = .ok (.goto 894, 3) := by decide +kernel
theorem dL_law_751 : decode cL_law 751 = .ok (.aload_n 1, 1) := by decide +kernel
theorem dL_law_752 : decode cL_law 752 = .ok (.aload_n 0, 1) := by decide +kernel
theorem dL_law_753 : decode cL_law 753 = .ok (.iload 4, 2) := by decide +kernel
theorem dL_law_755 : decode cL_law 755 = .ok (.iconst 1, 1) := by decide +kernel
theorem dL_law_756 : decode cL_law 756 = .ok (.iadd, 1) := by decide +kernel
theorem dL_law_757 : decode cL_law 757 = .ok (.iaload, 1) := by decide +kernel
theorem dL_law_758 : decode cL_law 758 = .ok (.aload_n 3, 1) := by decide +kernel
theorem dL_law_759 : decode cL_law 759 = .ok (.invokestatic 125, 3) := by decide +kernel
theorem dL_law_762 : decode cL_law 762 = .ok (.istore 5, 2) := by decide +kernel
theorem dL_law_764 : decode cL_law 764 = .ok (.aload_n 2, 1) := by decide +kernel
theorem dL_law_765 : decode cL_law 765 = .ok (.aload_n 0, 1) := by decide +kernel
theorem dL_law_766 : decode cL_law 766 = .ok (.iload 4, 2) := by decide +kernel
theorem dL_law_768 : decode cL_law 768 = .ok (.iconst 1, 1) := by decide +kernel
theorem dL_law_769 : decode cL_law 769 = .ok (.iadd, 1) := by decide +kernel
theorem dL_law_770 : decode cL_law 770 = .ok (.iaload, 1) := by decide +kernel
theorem dL_law_771 : decode cL_law 771 = .ok (.invokevirtual 127, 3) := by decide +kernel
theorem dL_law_774 : decode cL_law 774 = .ok (.istore 6, 2) := by decide +kernel
theorem dL_law_776 : decode cL_law 776 = .ok (.aload_n 2, 1) := by decide +kernel
theorem dL_law_777 : decode cL_law 777 = .ok (.invokevirtual 96, 3) := by decide +kernel
theorem dL_law_780 : decode cL_law 780 = .ok (.iload 5, 2) := by decide +kernel
theorem dL_law_782 : decode cL_law 782 = .ok (.if_icmp .eq 5, 3) := by decide +kernel
theorem dL_law_785 : decode cL_law 785 = .ok (.iconst 0, 1) := by decide +kernel
theorem dL_law_786 : decode cL_law 786 = .ok (.ireturn, 1) := by decide +kernel
theorem dL_law_787 : decode cL_law 787 = .ok (.iload 5, 2) := by decide +kernel
theorem dL_law_789 : decode cL_law 789 = .ok (.ifCond .ne 15, 3) := by decide +kernel
theorem dL_law_792 : decode cL_law 792 = .ok (.aload_n 3, 1) := by decide +kernel
theorem dL_law_793 : decode cL_law 793 = .ok (.iconst 0, 1) := by decide +kernel
theorem dL_law_794 : decode cL_law 794 = .ok (.laload, 1) := by decide +kernel
theorem dL_law_795 : decode cL_law 795 = .ok (.iload 6, 2) := by decide +kernel
theorem dL_law_797 : decode cL_law 797 = .ok (.i2l, 1) := by decide +kernel
theorem dL_law_798 : decode cL_law 798 = .ok (.lcmp, 1) := by decide +kernel
theorem dL_law_799 : decode cL_law 799 = .ok (.ifCond .eq 5, 3) := by decide +kernel
theorem dL_law_802 : decode cL_law 802 = .ok (.iconst 0, 1) := by decide +kernel
theorem dL_law_803 : decode cL_law 803 = .ok (.ireturn, 1) := by decide +kernel
theorem dL_law_804 : decode cL_law 804 = .ok (.goto 838, 3) := by decide +kernel
theorem dL_law_807 : decode cL_law 807 = .ok (.aload_n 1, 1) := by decide +kernel
theorem dL_law_808 : decode cL_law 808 = .ok (.aload_n 0, 1) := by decide +kernel
theorem dL_law_809 : decode cL_law 809 = .ok (.iload 4, 2) := by decide +kernel
theorem dL_law_811 : decode cL_law 811 = .ok (.iconst 1, 1) := by decide +kernel
theorem dL_law_812 : decode cL_law 812 = .ok (.iadd, 1) := by decide +kernel
theorem dL_law_813 : decode cL_law 813 = .ok (.iaload, 1) := by decide +kernel
theorem dL_law_814 : decode cL_law 814 = .ok (.aload_n 0, 1) := by decide +kernel
theorem dL_law_815 : decode cL_law 815 = .ok (.iload 4, 2) := by decide +kernel
theorem dL_law_817 : decode cL_law 817 = .ok (.iconst 2, 1) := by decide +kernel
theorem dL_law_818 : decode cL_law 818 = .ok (.iadd, 1) := by decide +kernel
theorem dL_law_819 : decode cL_law 819 = .ok (.iaload, 1) := by decide +kernel
theorem dL_law_820 : decode cL_law 820 = .ok (.aload_n 0, 1) := by decide +kernel
theorem dL_law_821 : decode cL_law 821 = .ok (.iload 4, 2) := by decide +kernel
theorem dL_law_823 : decode cL_law 823 = .ok (.iconst 3, 1) := by decide +kernel
theorem dL_law_824 : decode cL_law 824 = .ok (.iadd, 1) := by decide +kernel
theorem dL_law_825 : decode cL_law 825 = .ok (.iaload, 1) := by decide +kernel
theorem dL_law_826 : decode cL_law 826 = .ok (.aload_n 0, 1) := by decide +kernel
theorem dL_law_827 : decode cL_law 827 = .ok (.iload 4, 2) := by decide +kernel
theorem dL_law_829 : decode cL_law 829 = .ok (.iconst 4, 1) := by decide +kernel
theorem dL_law_830 : decode cL_law 830 = .ok (.iadd, 1) := by decide +kernel
theorem dL_law_831 : decode cL_law 831 = .ok (.iaload, 1) := by decide +kernel
theorem dL_law_832 : decode cL_law 832 = .ok (.aload_n 0, 1) := by decide +kernel
theorem dL_law_833 : decode cL_law 833 = .ok (.iload 4, 2) := by decide +kernel
theorem dL_law_835 : decode cL_law 835 = .ok (.iconst 5, 1) := by decide +kernel
theorem dL_law_836 : decode cL_law 836 = .ok (.iadd, 1) := by decide +kernel
theorem dL_law_837 : decode cL_law 837 = .ok (.iaload, 1) := by decide +kernel
theorem dL_law_838 : decode cL_law 838 = .ok (.aload_n 3, 1) := by decide +kernel
theorem dL_law_839 : decode cL_law 839 = .ok (.invokestatic 128, 3) := by decide +kernel
theorem dL_law_842 : decode cL_law 842 = .ok (.istore 5, 2) := by decide +kernel
theorem dL_law_844 : decode cL_law 844 = .ok (.aload_n 2, 1) := by decide +kernel
theorem dL_law_845 : decode cL_law 845 = .ok (.aload_n 0, 1) := by decide +kernel
theorem dL_law_846 : decode cL_law 846 = .ok (.iload 4, 2) := by decide +kernel
theorem dL_law_848 : decode cL_law 848 = .ok (.iconst 1, 1) := by decide +kernel
theorem dL_law_849 : decode cL_law 849 = .ok (.iadd, 1) := by decide +kernel
theorem dL_law_850 : decode cL_law 850 = .ok (.iaload, 1) := by decide +kernel
theorem dL_law_851 : decode cL_law 851 = .ok (.aload_n 0, 1) := by decide +kernel
theorem dL_law_852 : decode cL_law 852 = .ok (.iload 4, 2) := by decide +kernel
theorem dL_law_854 : decode cL_law 854 = .ok (.iconst 2, 1) := by decide +kernel
theorem dL_law_855 : decode cL_law 855 = .ok (.iadd, 1) := by decide +kernel
theorem dL_law_856 : decode cL_law 856 = .ok (.iaload, 1) := by decide +kernel
theorem dL_law_857 : decode cL_law 857 = .ok (.aload_n 0, 1) := by decide +kernel
theorem dL_law_858 : decode cL_law 858 = .ok (.iload 4, 2) := by decide +kernel
theorem dL_law_860 : decode cL_law 860 = .ok (.iconst 3, 1) := by decide +kernel
theorem dL_law_861 : decode cL_law 861 = .ok (.iadd, 1) := by decide +kernel
theorem dL_law_862 : decode cL_law 862 = .ok (.iaload, 1) := by decide +kernel
theorem dL_law_863 : decode cL_law 863 = .ok (.aload_n 0, 1) := by decide +kernel
theorem dL_law_864 : decode cL_law 864 = .ok (.iload 4, 2) := by decide +kernel
theorem dL_law_866 : decode cL_law 866 = .ok (.iconst 4, 1) := by decide +kernel
theorem dL_law_867 : decode cL_law 867 = .ok (.iadd, 1) := by decide +kernel
theorem dL_law_868 : decode cL_law 868 = .ok (.iaload, 1) := by decide +kernel
theorem dL_law_869 : decode cL_law 869 = .ok (.aload_n 0, 1) := by decide +kernel
theorem dL_law_870 : decode cL_law 870 = .ok (.iload 4, 2) := by decide +kernel
theorem dL_law_872 : decode cL_law 872 = .ok (.iconst 5, 1) := by decide +kernel
theorem dL_law_873 : decode cL_law 873 = .ok (.iadd, 1) := by decide +kernel
theorem dL_law_874 : decode cL_law 874 = .ok (.iaload, 1) := by decide +kernel
theorem dL_law_875 : decode cL_law 875 = .ok (.invokevirtual 130, 3) := by decide +kernel
theorem dL_law_878 : decode cL_law 878 = .ok (.istore 6, 2) := by decide +kernel
theorem dL_law_880 : decode cL_law 880 = .ok (.aload_n 2, 1) := by decide +kernel
theorem dL_law_881 : decode cL_law 881 = .ok (.invokevirtual 96, 3) := by decide +kernel
theorem dL_law_884 : decode cL_law 884 = .ok (.iload 5, 2) := by decide +kernel
theorem dL_law_886 : decode cL_law 886 = .ok (.if_icmp .eq 5, 3) := by decide +kernel
theorem dL_law_889 : decode cL_law 889 = .ok (.iconst 0, 1) := by decide +kernel
theorem dL_law_890 : decode cL_law 890 = .ok (.ireturn, 1) := by decide +kernel
theorem dL_law_891 : decode cL_law 891 = .ok (.iload 5, 2) := by decide +kernel
theorem dL_law_893 : decode cL_law 893 = .ok (.ifCond .ne 15, 3) := by decide +kernel
theorem dL_law_896 : decode cL_law 896 = .ok (.aload_n 3, 1) := by decide +kernel
theorem dL_law_897 : decode cL_law 897 = .ok (.iconst 0, 1) := by decide +kernel
theorem dL_law_898 : decode cL_law 898 = .ok (.laload, 1) := by decide +kernel
theorem dL_law_899 : decode cL_law 899 = .ok (.iload 6, 2) := by decide +kernel
theorem dL_law_901 : decode cL_law 901 = .ok (.i2l, 1) := by decide +kernel
theorem dL_law_902 : decode cL_law 902 = .ok (.lcmp, 1) := by decide +kernel
theorem dL_law_903 : decode cL_law 903 = .ok (.ifCond .eq 5, 3) := by decide +kernel
theorem dL_law_906 : decode cL_law 906 = .ok (.iconst 0, 1) := by decide +kernel
theorem dL_law_907 : decode cL_law 907 = .ok (.ireturn, 1) := by decide +kernel
theorem dL_law_908 : decode cL_law 908 = .ok (.goto 734, 3) := by decide +kernel
theorem dL_law_911 : decode cL_law 911 = .ok (.aload_n 1, 1) := by decide +kernel
theorem dL_law_912 : decode cL_law 912 = .ok (.aload_n 0, 1) := by decide +kernel
theorem dL_law_913 : decode cL_law 913 = .ok (.iload 4, 2) := by decide +kernel
theorem dL_law_915 : decode cL_law 915 = .ok (.iconst 1, 1) := by decide +kernel
theorem dL_law_916 : decode cL_law 916 = .ok (.iadd, 1) := by decide +kernel
theorem dL_law_917 : decode cL_law 917 = .ok (.iaload, 1) := by decide +kernel
theorem dL_law_918 : decode cL_law 918 = .ok (.aload_n 0, 1) := by decide +kernel
theorem dL_law_919 : decode cL_law 919 = .ok (.iload 4, 2) := by decide +kernel
theorem dL_law_921 : decode cL_law 921 = .ok (.iconst 2, 1) := by decide +kernel
theorem dL_law_922 : decode cL_law 922 = .ok (.iadd, 1) := by decide +kernel
theorem dL_law_923 : decode cL_law 923 = .ok (.iaload, 1) := by decide +kernel
theorem dL_law_924 : decode cL_law 924 = .ok (.aload_n 0, 1) := by decide +kernel
theorem dL_law_925 : decode cL_law 925 = .ok (.iload 4, 2) := by decide +kernel
theorem dL_law_927 : decode cL_law 927 = .ok (.iconst 3, 1) := by decide +kernel
theorem dL_law_928 : decode cL_law 928 = .ok (.iadd, 1) := by decide +kernel
theorem dL_law_929 : decode cL_law 929 = .ok (.iaload, 1) := by decide +kernel
theorem dL_law_930 : decode cL_law 930 = .ok (.aload_n 3, 1) := by decide +kernel
theorem dL_law_931 : decode cL_law 931 = .ok (.invokestatic 131, 3) := by decide +kernel
theorem dL_law_934 : decode cL_law 934 = .ok (.istore 5, 2) := by decide +kernel
theorem dL_law_936 : decode cL_law 936 = .ok (.aload_n 2, 1) := by decide +kernel
theorem dL_law_937 : decode cL_law 937 = .ok (.aload_n 0, 1) := by decide +kernel
theorem dL_law_938 : decode cL_law 938 = .ok (.iload 4, 2) := by decide +kernel
theorem dL_law_940 : decode cL_law 940 = .ok (.iconst 1, 1) := by decide +kernel
theorem dL_law_941 : decode cL_law 941 = .ok (.iadd, 1) := by decide +kernel
theorem dL_law_942 : decode cL_law 942 = .ok (.iaload, 1) := by decide +kernel
theorem dL_law_943 : decode cL_law 943 = .ok (.aload_n 0, 1) := by decide +kernel
theorem dL_law_944 : decode cL_law 944 = .ok (.iload 4, 2) := by decide +kernel
theorem dL_law_946 : decode cL_law 946 = .ok (.iconst 2, 1) := by decide +kernel
theorem dL_law_947 : decode cL_law 947 = .ok (.iadd, 1) := by decide +kernel
theorem dL_law_948 : decode cL_law 948 = .ok (.iaload, 1) := by decide +kernel
theorem dL_law_949 : decode cL_law 949 = .ok (.aload_n 0, 1) := by decide +kernel
theorem dL_law_950 : decode cL_law 950 = .ok (.iload 4, 2) := by decide +kernel
theorem dL_law_952 : decode cL_law 952 = .ok (.iconst 3, 1) := by decide +kernel
theorem dL_law_953 : decode cL_law 953 = .ok (.iadd, 1) := by decide +kernel
theorem dL_law_954 : decode cL_law 954 = .ok (.iaload, 1) := by decide +kernel
theorem dL_law_955 : decode cL_law 955 = .ok (.invokevirtual 133, 3) := by decide +kernel
theorem dL_law_958 : decode cL_law 958 = .ok (.istore 6, 2) := by decide +kernel
theorem dL_law_960 : decode cL_law 960 = .ok (.aload_n 2, 1) := by decide +kernel
theorem dL_law_961 : decode cL_law 961 = .ok (.invokevirtual 96, 3) := by decide +kernel
theorem dL_law_964 : decode cL_law 964 = .ok (.iload 5, 2) := by decide +kernel
theorem dL_law_966 : decode cL_law 966 = .ok (.if_icmp .eq 5, 3) := by decide +kernel
theorem dL_law_969 : decode cL_law 969 = .ok (.iconst 0, 1) := by decide +kernel
theorem dL_law_970 : decode cL_law 970 = .ok (.ireturn, 1) := by decide +kernel
theorem dL_law_971 : decode cL_law 971 = .ok (.iload 5, 2) := by decide +kernel
theorem dL_law_973 : decode cL_law 973 = .ok (.ifCond .ne 15, 3) := by decide +kernel
theorem dL_law_976 : decode cL_law 976 = .ok (.aload_n 3, 1) := by decide +kernel
theorem dL_law_977 : decode cL_law 977 = .ok (.iconst 0, 1) := by decide +kernel
theorem dL_law_978 : decode cL_law 978 = .ok (.laload, 1) := by decide +kernel
theorem dL_law_979 : decode cL_law 979 = .ok (.iload 6, 2) := by decide +kernel
theorem dL_law_981 : decode cL_law 981 = .ok (.i2l, 1) := by decide +kernel
theorem dL_law_982 : decode cL_law 982 = .ok (.lcmp, 1) := by decide +kernel
theorem dL_law_983 : decode cL_law 983 = .ok (.ifCond .eq 5, 3) := by decide +kernel
theorem dL_law_986 : decode cL_law 986 = .ok (.iconst 0, 1) := by decide +kernel
theorem dL_law_987 : decode cL_law 987 = .ok (.ireturn, 1) := by decide +kernel
theorem dL_law_988 : decode cL_law 988 = .ok (.goto 654, 3) := by decide +kernel
theorem dL_law_991 : decode cL_law 991 = .ok (.aload_n 1, 1) := by decide +kernel
theorem dL_law_992 : decode cL_law 992 = .ok (.aload_n 0, 1) := by decide +kernel
theorem dL_law_993 : decode cL_law 993 = .ok (.iload 4, 2) := by decide +kernel
theorem dL_law_995 : decode cL_law 995 = .ok (.iconst 1, 1) := by decide +kernel
theorem dL_law_996 : decode cL_law 996 = .ok (.iadd, 1) := by decide +kernel
theorem dL_law_997 : decode cL_law 997 = .ok (.iaload, 1) := by decide +kernel
theorem dL_law_998 : decode cL_law 998 = .ok (.aload_n 0, 1) := by decide +kernel
theorem dL_law_999 : decode cL_law 999 = .ok (.iload 4, 2) := by decide +kernel
theorem dL_law_1001 : decode cL_law 1001 = .ok (.iconst 2, 1) := by decide +kernel
theorem dL_law_1002 : decode cL_law 1002 = .ok (.iadd, 1) := by decide +kernel
theorem dL_law_1003 : decode cL_law 1003 = .ok (.iaload, 1) := by decide +kernel
theorem dL_law_1004 : decode cL_law 1004 = .ok (.aload_n 3, 1) := by decide +kernel
theorem dL_law_1005 : decode cL_law 1005 = .ok (.invokestatic 134, 3) := by decide +kernel
theorem dL_law_1008 : decode cL_law 1008 = .ok (.istore 5, 2) := by decide +kernel
theorem dL_law_1010 : decode cL_law 1010 = .ok (.aload_n 2, 1) := by decide +kernel
theorem dL_law_1011 : decode cL_law 1011 = .ok (.aload_n 0, 1) := by decide +kernel
theorem dL_law_1012 : decode cL_law 1012 = .ok (.iload 4, 2) := by decide +kernel
theorem dL_law_1014 : decode cL_law 1014 = .ok (.iconst 1, 1) := by decide +kernel
theorem dL_law_1015 : decode cL_law 1015 = .ok (.iadd, 1) := by decide +kernel
theorem dL_law_1016 : decode cL_law 1016 = .ok (.iaload, 1) := by decide +kernel
theorem dL_law_1017 : decode cL_law 1017 = .ok (.aload_n 0, 1) := by decide +kernel
theorem dL_law_1018 : decode cL_law 1018 = .ok (.iload 4, 2) := by decide +kernel
theorem dL_law_1020 : decode cL_law 1020 = .ok (.iconst 2, 1) := by decide +kernel
theorem dL_law_1021 : decode cL_law 1021 = .ok (.iadd, 1) := by decide +kernel
theorem dL_law_1022 : decode cL_law 1022 = .ok (.iaload, 1) := by decide +kernel
theorem dL_law_1023 : decode cL_law 1023 = .ok (.invokevirtual 136, 3) := by decide +kernel
theorem dL_law_1026 : decode cL_law 1026 = .ok (.istore 6, 2) := by decide +kernel
theorem dL_law_1028 : decode cL_law 1028 = .ok (.aload_n 2, 1) := by decide +kernel
theorem dL_law_1029 : decode cL_law 1029 = .ok (.invokevirtual 96, 3) := by decide +kernel
theorem dL_law_1032 : decode cL_law 1032 = .ok (.iload 5, 2) := by decide +kernel
theorem dL_law_1034 : decode cL_law 1034 = .ok (.if_icmp .eq 5, 3) := by decide +kernel
theorem dL_law_1037 : decode cL_law 1037 = .ok (.iconst 0, 1) := by decide +kernel
theorem dL_law_1038 : decode cL_law 1038 = .ok (.ireturn, 1) := by decide +kernel
theorem dL_law_1039 : decode cL_law 1039 = .ok (.iload 5, 2) := by decide +kernel
theorem dL_law_1041 : decode cL_law 1041 = .ok (.ifCond .ne 15, 3) := by decide +kernel
theorem dL_law_1044 : decode cL_law 1044 = .ok (.aload_n 3, 1) := by decide +kernel
theorem dL_law_1045 : decode cL_law 1045 = .ok (.iconst 0, 1) := by decide +kernel
theorem dL_law_1046 : decode cL_law 1046 = .ok (.laload, 1) := by decide +kernel
theorem dL_law_1047 : decode cL_law 1047 = .ok (.iload 6, 2) := by decide +kernel
theorem dL_law_1049 : decode cL_law 1049 = .ok (.i2l, 1) := by decide +kernel
theorem dL_law_1050 : decode cL_law 1050 = .ok (.lcmp, 1) := by decide +kernel
theorem dL_law_1051 : decode cL_law 1051 = .ok (.ifCond .eq 5, 3) := by decide +kernel
theorem dL_law_1054 : decode cL_law 1054 = .ok (.iconst 0, 1) := by decide +kernel
theorem dL_law_1055 : decode cL_law 1055 = .ok (.ireturn, 1) := by decide +kernel
theorem dL_law_1056 : decode cL_law 1056 = .ok (.goto 586, 3) := by decide +kernel
theorem dL_law_1059 : decode cL_law 1059 = .ok (.aload_n 1, 1) := by decide +kernel
theorem dL_law_1060 : decode cL_law 1060 = .ok (.aload_n 0, 1) := by decide +kernel
theorem dL_law_1061 : decode cL_law 1061 = .ok (.iload 4, 2) := by decide +kernel
theorem dL_law_1063 : decode cL_law 1063 = .ok (.iconst 1, 1) := by decide +kernel
theorem dL_law_1064 : decode cL_law 1064 = .ok (.iadd, 1) := by decide +kernel
theorem dL_law_1065 : decode cL_law 1065 = .ok (.iaload, 1) := by decide +kernel
theorem dL_law_1066 : decode cL_law 1066 = .ok (.aload_n 3, 1) := by decide +kernel
theorem dL_law_1067 : decode cL_law 1067 = .ok (.invokestatic 137, 3) := by decide +kernel
theorem dL_law_1070 : decode cL_law 1070 = .ok (.istore 5, 2) := by decide +kernel
theorem dL_law_1072 : decode cL_law 1072 = .ok (.aload_n 2, 1) := by decide +kernel
theorem dL_law_1073 : decode cL_law 1073 = .ok (.aload_n 0, 1) := by decide +kernel
theorem dL_law_1074 : decode cL_law 1074 = .ok (.iload 4, 2) := by decide +kernel
theorem dL_law_1076 : decode cL_law 1076 = .ok (.iconst 1, 1) := by decide +kernel
theorem dL_law_1077 : decode cL_law 1077 = .ok (.iadd, 1) := by decide +kernel
theorem dL_law_1078 : decode cL_law 1078 = .ok (.iaload, 1) := by decide +kernel
theorem dL_law_1079 : decode cL_law 1079 = .ok (.invokevirtual 139, 3) := by decide +kernel
theorem dL_law_1082 : decode cL_law 1082 = .ok (.istore 6, 2) := by decide +kernel
theorem dL_law_1084 : decode cL_law 1084 = .ok (.aload_n 2, 1) := by decide +kernel
theorem dL_law_1085 : decode cL_law 1085 = .ok (.invokevirtual 96, 3) := by decide +kernel
theorem dL_law_1088 : decode cL_law 1088 = .ok (.iload 5, 2) := by decide +kernel
theorem dL_law_1090 : decode cL_law 1090 = .ok (.if_icmp .eq 5, 3) := by decide +kernel
theorem dL_law_1093 : decode cL_law 1093 = .ok (.iconst 0, 1) := by decide +kernel
theorem dL_law_1094 : decode cL_law 1094 = .ok (.ireturn, 1) := by decide +kernel
theorem dL_law_1095 : decode cL_law 1095 = .ok (.iload 5, 2) := by decide +kernel
theorem dL_law_1097 : decode cL_law 1097 = .ok (.ifCond .ne 15, 3) := by decide +kernel
theorem dL_law_1100 : decode cL_law 1100 = .ok (.aload_n 3, 1) := by decide +kernel
theorem dL_law_1101 : decode cL_law 1101 = .ok (.iconst 0, 1) := by decide +kernel
theorem dL_law_1102 : decode cL_law 1102 = .ok (.laload, 1) := by decide +kernel
theorem dL_law_1103 : decode cL_law 1103 = .ok (.iload 6, 2) := by decide +kernel
theorem dL_law_1105 : decode cL_law 1105 = .ok (.i2l, 1) := by decide +kernel
theorem dL_law_1106 : decode cL_law 1106 = .ok (.lcmp, 1) := by decide +kernel
theorem dL_law_1107 : decode cL_law 1107 = .ok (.ifCond .eq 5, 3) := by decide +kernel
theorem dL_law_1110 : decode cL_law 1110 = .ok (.iconst 0, 1) := by decide +kernel
theorem dL_law_1111 : decode cL_law 1111 = .ok (.ireturn, 1) := by decide +kernel
theorem dL_law_1112 : decode cL_law 1112 = .ok (.goto 530, 3) := by decide +kernel
theorem dL_law_1115 : decode cL_law 1115 = .ok (.aload_n 1, 1) := by decide +kernel
theorem dL_law_1116 : decode cL_law 1116 = .ok (.aload_n 0, 1) := by decide +kernel
theorem dL_law_1117 : decode cL_law 1117 = .ok (.iload 4, 2) := by decide +kernel
theorem dL_law_1119 : decode cL_law 1119 = .ok (.iconst 1, 1) := by decide +kernel
theorem dL_law_1120 : decode cL_law 1120 = .ok (.iadd, 1) := by decide +kernel
theorem dL_law_1121 : decode cL_law 1121 = .ok (.iaload, 1) := by decide +kernel
theorem dL_law_1122 : decode cL_law 1122 = .ok (.aload_n 0, 1) := by decide +kernel
theorem dL_law_1123 : decode cL_law 1123 = .ok (.iload 4, 2) := by decide +kernel
theorem dL_law_1125 : decode cL_law 1125 = .ok (.iconst 2, 1) := by decide +kernel
theorem dL_law_1126 : decode cL_law 1126 = .ok (.iadd, 1) := by decide +kernel
theorem dL_law_1127 : decode cL_law 1127 = .ok (.iaload, 1) := by decide +kernel
theorem dL_law_1128 : decode cL_law 1128 = .ok (.aload_n 3, 1) := by decide +kernel
theorem dL_law_1129 : decode cL_law 1129 = .ok (.invokestatic 140, 3) := by decide +kernel
theorem dL_law_1132 : decode cL_law 1132 = .ok (.istore 5, 2) := by decide +kernel
theorem dL_law_1134 : decode cL_law 1134 = .ok (.aload_n 2, 1) := by decide +kernel
theorem dL_law_1135 : decode cL_law 1135 = .ok (.aload_n 0, 1) := by decide +kernel
theorem dL_law_1136 : decode cL_law 1136 = .ok (.iload 4, 2) := by decide +kernel
theorem dL_law_1138 : decode cL_law 1138 = .ok (.iconst 1, 1) := by decide +kernel
theorem dL_law_1139 : decode cL_law 1139 = .ok (.iadd, 1) := by decide +kernel
theorem dL_law_1140 : decode cL_law 1140 = .ok (.iaload, 1) := by decide +kernel
theorem dL_law_1141 : decode cL_law 1141 = .ok (.aload_n 0, 1) := by decide +kernel
theorem dL_law_1142 : decode cL_law 1142 = .ok (.iload 4, 2) := by decide +kernel
theorem dL_law_1144 : decode cL_law 1144 = .ok (.iconst 2, 1) := by decide +kernel
theorem dL_law_1145 : decode cL_law 1145 = .ok (.iadd, 1) := by decide +kernel
theorem dL_law_1146 : decode cL_law 1146 = .ok (.iaload, 1) := by decide +kernel
theorem dL_law_1147 : decode cL_law 1147 = .ok (.invokevirtual 142, 3) := by decide +kernel
theorem dL_law_1150 : decode cL_law 1150 = .ok (.istore 6, 2) := by decide +kernel
theorem dL_law_1152 : decode cL_law 1152 = .ok (.aload_n 2, 1) := by decide +kernel
theorem dL_law_1153 : decode cL_law 1153 = .ok (.invokevirtual 96, 3) := by decide +kernel
theorem dL_law_1156 : decode cL_law 1156 = .ok (.iload 5, 2) := by decide +kernel
theorem dL_law_1158 : decode cL_law 1158 = .ok (.if_icmp .eq 5, 3) := by decide +kernel
theorem dL_law_1161 : decode cL_law 1161 = .ok (.iconst 0, 1) := by decide +kernel
theorem dL_law_1162 : decode cL_law 1162 = .ok (.ireturn, 1) := by decide +kernel
theorem dL_law_1163 : decode cL_law 1163 = .ok (.iload 5, 2) := by decide +kernel
theorem dL_law_1165 : decode cL_law 1165 = .ok (.ifCond .ne 15, 3) := by decide +kernel
theorem dL_law_1168 : decode cL_law 1168 = .ok (.aload_n 3, 1) := by decide +kernel
theorem dL_law_1169 : decode cL_law 1169 = .ok (.iconst 0, 1) := by decide +kernel
theorem dL_law_1170 : decode cL_law 1170 = .ok (.laload, 1) := by decide +kernel
theorem dL_law_1171 : decode cL_law 1171 = .ok (.iload 6, 2) := by decide +kernel
theorem dL_law_1173 : decode cL_law 1173 = .ok (.i2l, 1) := by decide +kernel
theorem dL_law_1174 : decode cL_law 1174 = .ok (.lcmp, 1) := by decide +kernel
theorem dL_law_1175 : decode cL_law 1175 = .ok (.ifCond .eq 5, 3) := by decide +kernel
theorem dL_law_1178 : decode cL_law 1178 = .ok (.iconst 0, 1) := by decide +kernel
theorem dL_law_1179 : decode cL_law 1179 = .ok (.ireturn, 1) := by decide +kernel
theorem dL_law_1180 : decode cL_law 1180 = .ok (.goto 462, 3) := by decide +kernel
theorem dL_law_1183 : decode cL_law 1183 = .ok (.aload_n 1, 1) := by decide +kernel
theorem dL_law_1184 : decode cL_law 1184 = .ok (.aload_n 0, 1) := by decide +kernel
theorem dL_law_1185 : decode cL_law 1185 = .ok (.iload 4, 2) := by decide +kernel
theorem dL_law_1187 : decode cL_law 1187 = .ok (.iconst 1, 1) := by decide +kernel
theorem dL_law_1188 : decode cL_law 1188 = .ok (.iadd, 1) := by decide +kernel
theorem dL_law_1189 : decode cL_law 1189 = .ok (.iaload, 1) := by decide +kernel
theorem dL_law_1190 : decode cL_law 1190 = .ok (.aload_n 3, 1) := by decide +kernel
theorem dL_law_1191 : decode cL_law 1191 = .ok (.invokestatic 143, 3) := by decide +kernel
theorem dL_law_1194 : decode cL_law 1194 = .ok (.istore 5, 2) := by decide +kernel
theorem dL_law_1196 : decode cL_law 1196 = .ok (.aload_n 2, 1) := by decide +kernel
theorem dL_law_1197 : decode cL_law 1197 = .ok (.aload_n 0, 1) := by decide +kernel
theorem dL_law_1198 : decode cL_law 1198 = .ok (.iload 4, 2) := by decide +kernel
theorem dL_law_1200 : decode cL_law 1200 = .ok (.iconst 1, 1) := by decide +kernel
theorem dL_law_1201 : decode cL_law 1201 = .ok (.iadd, 1) := by decide +kernel
theorem dL_law_1202 : decode cL_law 1202 = .ok (.iaload, 1) := by decide +kernel
theorem dL_law_1203 : decode cL_law 1203 = .ok (.invokevirtual 145, 3) := by decide +kernel
theorem dL_law_1206 : decode cL_law 1206 = .ok (.istore 6, 2) := by decide +kernel
theorem dL_law_1208 : decode cL_law 1208 = .ok (.aload_n 2, 1) := by decide +kernel
theorem dL_law_1209 : decode cL_law 1209 = .ok (.invokevirtual 96, 3) := by decide +kernel
theorem dL_law_1212 : decode cL_law 1212 = .ok (.iload 5, 2) := by decide +kernel
theorem dL_law_1214 : decode cL_law 1214 = .ok (.if_icmp .eq 5, 3) := by decide +kernel
theorem dL_law_1217 : decode cL_law 1217 = .ok (.iconst 0, 1) := by decide +kernel
theorem dL_law_1218 : decode cL_law 1218 = .ok (.ireturn, 1) := by decide +kernel
theorem dL_law_1219 : decode cL_law 1219 = .ok (.iload 5, 2) := by decide +kernel
theorem dL_law_1221 : decode cL_law 1221 = .ok (.ifCond .ne 15, 3) := by decide +kernel
theorem dL_law_1224 : decode cL_law 1224 = .ok (.aload_n 3, 1) := by decide +kernel
theorem dL_law_1225 : decode cL_law 1225 = .ok (.iconst 0, 1) := by decide +kernel
theorem dL_law_1226 : decode cL_law 1226 = .ok (.laload, 1) := by decide +kernel
theorem dL_law_1227 : decode cL_law 1227 = .ok (.iload 6, 2) := by decide +kernel
theorem dL_law_1229 : decode cL_law 1229 = .ok (.i2l, 1) := by decide +kernel
theorem dL_law_1230 : decode cL_law 1230 = .ok (.lcmp, 1) := by decide +kernel
theorem dL_law_1231 : decode cL_law 1231 = .ok (.ifCond .eq 5, 3) := by decide +kernel
theorem dL_law_1234 : decode cL_law 1234 = .ok (.iconst 0, 1) := by decide +kernel
theorem dL_law_1235 : decode cL_law 1235 = .ok (.ireturn, 1) := by decide +kernel
theorem dL_law_1236 : decode cL_law 1236 = .ok (.goto 406, 3) := by decide +kernel
theorem dL_law_1239 : decode cL_law 1239 = .ok (.aload_n 1, 1) := by decide +kernel
theorem dL_law_1240 : decode cL_law 1240 = .ok (.aload_n 0, 1) := by decide +kernel
theorem dL_law_1241 : decode cL_law 1241 = .ok (.iload 4, 2) := by decide +kernel
theorem dL_law_1243 : decode cL_law 1243 = .ok (.iconst 1, 1) := by decide +kernel
theorem dL_law_1244 : decode cL_law 1244 = .ok (.iadd, 1) := by decide +kernel
theorem dL_law_1245 : decode cL_law 1245 = .ok (.iaload, 1) := by decide +kernel
theorem dL_law_1246 : decode cL_law 1246 = .ok (.aload_n 0, 1) := by decide +kernel
theorem dL_law_1247 : decode cL_law 1247 = .ok (.iload 4, 2) := by decide +kernel
theorem dL_law_1249 : decode cL_law 1249 = .ok (.iconst 2, 1) := by decide +kernel
theorem dL_law_1250 : decode cL_law 1250 = .ok (.iadd, 1) := by decide +kernel
theorem dL_law_1251 : decode cL_law 1251 = .ok (.iaload, 1) := by decide +kernel
theorem dL_law_1252 : decode cL_law 1252 = .ok (.aload_n 3, 1) := by decide +kernel
theorem dL_law_1253 : decode cL_law 1253 = .ok (.invokestatic 146, 3) := by decide +kernel
theorem dL_law_1256 : decode cL_law 1256 = .ok (.istore 5, 2) := by decide +kernel
theorem dL_law_1258 : decode cL_law 1258 = .ok (.aload_n 2, 1) := by decide +kernel
theorem dL_law_1259 : decode cL_law 1259 = .ok (.aload_n 0, 1) := by decide +kernel
theorem dL_law_1260 : decode cL_law 1260 = .ok (.iload 4, 2) := by decide +kernel
theorem dL_law_1262 : decode cL_law 1262 = .ok (.iconst 1, 1) := by decide +kernel
theorem dL_law_1263 : decode cL_law 1263 = .ok (.iadd, 1) := by decide +kernel
theorem dL_law_1264 : decode cL_law 1264 = .ok (.iaload, 1) := by decide +kernel
theorem dL_law_1265 : decode cL_law 1265 = .ok (.aload_n 0, 1) := by decide +kernel
theorem dL_law_1266 : decode cL_law 1266 = .ok (.iload 4, 2) := by decide +kernel
theorem dL_law_1268 : decode cL_law 1268 = .ok (.iconst 2, 1) := by decide +kernel
theorem dL_law_1269 : decode cL_law 1269 = .ok (.iadd, 1) := by decide +kernel
theorem dL_law_1270 : decode cL_law 1270 = .ok (.iaload, 1) := by decide +kernel
theorem dL_law_1271 : decode cL_law 1271 = .ok (.invokevirtual 148, 3) := by decide +kernel
theorem dL_law_1274 : decode cL_law 1274 = .ok (.istore 6, 2) := by decide +kernel
theorem dL_law_1276 : decode cL_law 1276 = .ok (.aload_n 2, 1) := by decide +kernel
theorem dL_law_1277 : decode cL_law 1277 = .ok (.invokevirtual 96, 3) := by decide +kernel
theorem dL_law_1280 : decode cL_law 1280 = .ok (.iload 5, 2) := by decide +kernel
theorem dL_law_1282 : decode cL_law 1282 = .ok (.if_icmp .eq 5, 3) := by decide +kernel
theorem dL_law_1285 : decode cL_law 1285 = .ok (.iconst 0, 1) := by decide +kernel
theorem dL_law_1286 : decode cL_law 1286 = .ok (.ireturn, 1) := by decide +kernel
theorem dL_law_1287 : decode cL_law 1287 = .ok (.iload 5, 2) := by decide +kernel
theorem dL_law_1289 : decode cL_law 1289 = .ok (.ifCond .ne 22, 3) := by decide +kernel
theorem dL_law_1292 : decode cL_law 1292 = .ok (.aload_n 3, 1) := by decide +kernel
theorem dL_law_1293 : decode cL_law 1293 = .ok (.iconst 0, 1) := by decide +kernel
theorem dL_law_1294 : decode cL_law 1294 = .ok (.laload, 1) := by decide +kernel
theorem dL_law_1295 : decode cL_law 1295 = .ok (.iload 6, 2) := by decide +kernel
theorem dL_law_1297 : decode cL_law 1297 = .ok (.ifCond .eq 7, 3) := by decide +kernel
theorem dL_law_1300 : decode cL_law 1300 = .ok (.lconst 1, 1) := by decide +kernel
theorem dL_law_1301 : decode cL_law 1301 = .ok (.goto 4, 3) := by decide +kernel
theorem dL_law_1304 : decode cL_law 1304 = .ok (.lconst 0, 1) := by decide +kernel
theorem dL_law_1305 : decode cL_law 1305 = .ok (.lcmp, 1) := by decide +kernel
theorem dL_law_1306 : decode cL_law 1306 = .ok (.ifCond .eq 5, 3) := by decide +kernel
theorem dL_law_1309 : decode cL_law 1309 = .ok (.iconst 0, 1) := by decide +kernel
theorem dL_law_1310 : decode cL_law 1310 = .ok (.ireturn, 1) := by decide +kernel
theorem dL_law_1311 : decode cL_law 1311 = .ok (.goto 331, 3) := by decide +kernel
theorem dL_law_1314 : decode cL_law 1314 = .ok (.aload_n 1, 1) := by decide +kernel
theorem dL_law_1315 : decode cL_law 1315 = .ok (.aload_n 0, 1) := by decide +kernel
theorem dL_law_1316 : decode cL_law 1316 = .ok (.iload 4, 2) := by decide +kernel
theorem dL_law_1318 : decode cL_law 1318 = .ok (.iconst 1, 1) := by decide +kernel
theorem dL_law_1319 : decode cL_law 1319 = .ok (.iadd, 1) := by decide +kernel
theorem dL_law_1320 : decode cL_law 1320 = .ok (.iaload, 1) := by decide +kernel
theorem dL_law_1321 : decode cL_law 1321 = .ok (.aload_n 3, 1) := by decide +kernel
theorem dL_law_1322 : decode cL_law 1322 = .ok (.invokestatic 149, 3) := by decide +kernel
theorem dL_law_1325 : decode cL_law 1325 = .ok (.istore 5, 2) := by decide +kernel
theorem dL_law_1327 : decode cL_law 1327 = .ok (.aload_n 2, 1) := by decide +kernel
theorem dL_law_1328 : decode cL_law 1328 = .ok (.aload_n 0, 1) := by decide +kernel
theorem dL_law_1329 : decode cL_law 1329 = .ok (.iload 4, 2) := by decide +kernel
theorem dL_law_1331 : decode cL_law 1331 = .ok (.iconst 1, 1) := by decide +kernel
theorem dL_law_1332 : decode cL_law 1332 = .ok (.iadd, 1) := by decide +kernel
theorem dL_law_1333 : decode cL_law 1333 = .ok (.iaload, 1) := by decide +kernel
theorem dL_law_1334 : decode cL_law 1334 = .ok (.invokevirtual 151, 3) := by decide +kernel
theorem dL_law_1337 : decode cL_law 1337 = .ok (.istore 6, 2) := by decide +kernel
theorem dL_law_1339 : decode cL_law 1339 = .ok (.aload_n 2, 1) := by decide +kernel
theorem dL_law_1340 : decode cL_law 1340 = .ok (.invokevirtual 96, 3) := by decide +kernel
theorem dL_law_1343 : decode cL_law 1343 = .ok (.iload 5, 2) := by decide +kernel
theorem dL_law_1345 : decode cL_law 1345 = .ok (.if_icmp .eq 5, 3) := by decide +kernel
theorem dL_law_1348 : decode cL_law 1348 = .ok (.iconst 0, 1) := by decide +kernel
theorem dL_law_1349 : decode cL_law 1349 = .ok (.ireturn, 1) := by decide +kernel
theorem dL_law_1350 : decode cL_law 1350 = .ok (.iload 5, 2) := by decide +kernel
theorem dL_law_1352 : decode cL_law 1352 = .ok (.ifCond .ne 15, 3) := by decide +kernel
theorem dL_law_1355 : decode cL_law 1355 = .ok (.aload_n 3, 1) := by decide +kernel
theorem dL_law_1356 : decode cL_law 1356 = .ok (.iconst 0, 1) := by decide +kernel
theorem dL_law_1357 : decode cL_law 1357 = .ok (.laload, 1) := by decide +kernel
theorem dL_law_1358 : decode cL_law 1358 = .ok (.iload 6, 2) := by decide +kernel
theorem dL_law_1360 : decode cL_law 1360 = .ok (.i2l, 1) := by decide +kernel
theorem dL_law_1361 : decode cL_law 1361 = .ok (.lcmp, 1) := by decide +kernel
theorem dL_law_1362 : decode cL_law 1362 = .ok (.ifCond .eq 5, 3) := by decide +kernel
theorem dL_law_1365 : decode cL_law 1365 = .ok (.iconst 0, 1) := by decide +kernel
theorem dL_law_1366 : decode cL_law 1366 = .ok (.ireturn, 1) := by decide +kernel
theorem dL_law_1367 : decode cL_law 1367 = .ok (.goto 275, 3) := by decide +kernel
theorem dL_law_1370 : decode cL_law 1370 = .ok (.aload_n 1, 1) := by decide +kernel
theorem dL_law_1371 : decode cL_law 1371 = .ok (.aload_n 0, 1) := by decide +kernel
theorem dL_law_1372 : decode cL_law 1372 = .ok (.iload 4, 2) := by decide +kernel
theorem dL_law_1374 : decode cL_law 1374 = .ok (.iconst 1, 1) := by decide +kernel
theorem dL_law_1375 : decode cL_law 1375 = .ok (.iadd, 1) := by decide +kernel
theorem dL_law_1376 : decode cL_law 1376 = .ok (.iaload, 1) := by decide +kernel
theorem dL_law_1377 : decode cL_law 1377 = .ok (.aload_n 3, 1) := by decide +kernel
theorem dL_law_1378 : decode cL_law 1378 = .ok (.invokestatic 152, 3) := by decide +kernel
theorem dL_law_1381 : decode cL_law 1381 = .ok (.istore 5, 2) := by decide +kernel
theorem dL_law_1383 : decode cL_law 1383 = .ok (.aload_n 2, 1) := by decide +kernel
theorem dL_law_1384 : decode cL_law 1384 = .ok (.aload_n 0, 1) := by decide +kernel
theorem dL_law_1385 : decode cL_law 1385 = .ok (.iload 4, 2) := by decide +kernel
theorem dL_law_1387 : decode cL_law 1387 = .ok (.iconst 1, 1) := by decide +kernel
theorem dL_law_1388 : decode cL_law 1388 = .ok (.iadd, 1) := by decide +kernel
theorem dL_law_1389 : decode cL_law 1389 = .ok (.iaload, 1) := by decide +kernel
theorem dL_law_1390 : decode cL_law 1390 = .ok (.invokevirtual 154, 3) := by decide +kernel
theorem dL_law_1393 : decode cL_law 1393 = .ok (.istore 6, 2) := by decide +kernel
theorem dL_law_1395 : decode cL_law 1395 = .ok (.aload_n 2, 1) := by decide +kernel
theorem dL_law_1396 : decode cL_law 1396 = .ok (.invokevirtual 96, 3) := by decide +kernel
theorem dL_law_1399 : decode cL_law 1399 = .ok (.iload 5, 2) := by decide +kernel
theorem dL_law_1401 : decode cL_law 1401 = .ok (.if_icmp .eq 5, 3) := by decide +kernel
theorem dL_law_1404 : decode cL_law 1404 = .ok (.iconst 0, 1) := by decide +kernel
theorem dL_law_1405 : decode cL_law 1405 = .ok (.ireturn, 1) := by decide +kernel
theorem dL_law_1406 : decode cL_law 1406 = .ok (.iload 5, 2) := by decide +kernel
theorem dL_law_1408 : decode cL_law 1408 = .ok (.ifCond .ne 15, 3) := by decide +kernel
theorem dL_law_1411 : decode cL_law 1411 = .ok (.aload_n 3, 1) := by decide +kernel
theorem dL_law_1412 : decode cL_law 1412 = .ok (.iconst 0, 1) := by decide +kernel
theorem dL_law_1413 : decode cL_law 1413 = .ok (.laload, 1) := by decide +kernel
theorem dL_law_1414 : decode cL_law 1414 = .ok (.iload 6, 2) := by decide +kernel
theorem dL_law_1416 : decode cL_law 1416 = .ok (.i2l, 1) := by decide +kernel
theorem dL_law_1417 : decode cL_law 1417 = .ok (.lcmp, 1) := by decide +kernel
theorem dL_law_1418 : decode cL_law 1418 = .ok (.ifCond .eq 5, 3) := by decide +kernel
theorem dL_law_1421 : decode cL_law 1421 = .ok (.iconst 0, 1) := by decide +kernel
theorem dL_law_1422 : decode cL_law 1422 = .ok (.ireturn, 1) := by decide +kernel
theorem dL_law_1423 : decode cL_law 1423 = .ok (.goto 219, 3) := by decide +kernel
theorem dL_law_1426 : decode cL_law 1426 = .ok (.aload_n 1, 1) := by decide +kernel
theorem dL_law_1427 : decode cL_law 1427 = .ok (.aload_n 0, 1) := by decide +kernel
theorem dL_law_1428 : decode cL_law 1428 = .ok (.iload 4, 2) := by decide +kernel
theorem dL_law_1430 : decode cL_law 1430 = .ok (.iconst 1, 1) := by decide +kernel
theorem dL_law_1431 : decode cL_law 1431 = .ok (.iadd, 1) := by decide +kernel
theorem dL_law_1432 : decode cL_law 1432 = .ok (.iaload, 1) := by decide +kernel
theorem dL_law_1433 : decode cL_law 1433 = .ok (.aload_n 0, 1) := by decide +kernel
theorem dL_law_1434 : decode cL_law 1434 = .ok (.iload 4, 2) := by decide +kernel
theorem dL_law_1436 : decode cL_law 1436 = .ok (.iconst 2, 1) := by decide +kernel
theorem dL_law_1437 : decode cL_law 1437 = .ok (.iadd, 1) := by decide +kernel
theorem dL_law_1438 : decode cL_law 1438 = .ok (.iaload, 1) := by decide +kernel
theorem dL_law_1439 : decode cL_law 1439 = .ok (.aload_n 0, 1) := by decide +kernel
theorem dL_law_1440 : decode cL_law 1440 = .ok (.iload 4, 2) := by decide +kernel
theorem dL_law_1442 : decode cL_law 1442 = .ok (.iconst 3, 1) := by decide +kernel
theorem dL_law_1443 : decode cL_law 1443 = .ok (.iadd, 1) := by decide +kernel
theorem dL_law_1444 : decode cL_law 1444 = .ok (.iaload, 1) := by decide +kernel
theorem dL_law_1445 : decode cL_law 1445 = .ok (.aload_n 3, 1) := by decide +kernel
theorem dL_law_1446 : decode cL_law 1446 = .ok (.invokestatic 155, 3) := by decide +kernel
theorem dL_law_1449 : decode cL_law 1449 = .ok (.istore 5, 2) := by decide +kernel
theorem dL_law_1451 : decode cL_law 1451 = .ok (.aload_n 2, 1) := by decide +kernel
theorem dL_law_1452 : decode cL_law 1452 = .ok (.aload_n 0, 1) := by decide +kernel
theorem dL_law_1453 : decode cL_law 1453 = .ok (.iload 4, 2) := by decide +kernel
theorem dL_law_1455 : decode cL_law 1455 = .ok (.iconst 1, 1) := by decide +kernel
theorem dL_law_1456 : decode cL_law 1456 = .ok (.iadd, 1) := by decide +kernel
theorem dL_law_1457 : decode cL_law 1457 = .ok (.iaload, 1) := by decide +kernel
theorem dL_law_1458 : decode cL_law 1458 = .ok (.aload_n 0, 1) := by decide +kernel
theorem dL_law_1459 : decode cL_law 1459 = .ok (.iload 4, 2) := by decide +kernel
theorem dL_law_1461 : decode cL_law 1461 = .ok (.iconst 2, 1) := by decide +kernel
theorem dL_law_1462 : decode cL_law 1462 = .ok (.iadd, 1) := by decide +kernel
theorem dL_law_1463 : decode cL_law 1463 = .ok (.iaload, 1) := by decide +kernel
theorem dL_law_1464 : decode cL_law 1464 = .ok (.aload_n 0, 1) := by decide +kernel
theorem dL_law_1465 : decode cL_law 1465 = .ok (.iload 4, 2) := by decide +kernel
theorem dL_law_1467 : decode cL_law 1467 = .ok (.iconst 3, 1) := by decide +kernel
theorem dL_law_1468 : decode cL_law 1468 = .ok (.iadd, 1) := by decide +kernel
theorem dL_law_1469 : decode cL_law 1469 = .ok (.iaload, 1) := by decide +kernel
theorem dL_law_1470 : decode cL_law 1470 = .ok (.invokevirtual 157, 3) := by decide +kernel
theorem dL_law_1473 : decode cL_law 1473 = .ok (.istore 6, 2) := by decide +kernel
theorem dL_law_1475 : decode cL_law 1475 = .ok (.aload_n 2, 1) := by decide +kernel
theorem dL_law_1476 : decode cL_law 1476 = .ok (.invokevirtual 96, 3) := by decide +kernel
theorem dL_law_1479 : decode cL_law 1479 = .ok (.iload 5, 2) := by decide +kernel
theorem dL_law_1481 : decode cL_law 1481 = .ok (.if_icmp .eq 5, 3) := by decide +kernel
theorem dL_law_1484 : decode cL_law 1484 = .ok (.iconst 0, 1) := by decide +kernel
theorem dL_law_1485 : decode cL_law 1485 = .ok (.ireturn, 1) := by decide +kernel
theorem dL_law_1486 : decode cL_law 1486 = .ok (.iload 5, 2) := by decide +kernel
theorem dL_law_1488 : decode cL_law 1488 = .ok (.ifCond .ne 15, 3) := by decide +kernel
theorem dL_law_1491 : decode cL_law 1491 = .ok (.aload_n 3, 1) := by decide +kernel
theorem dL_law_1492 : decode cL_law 1492 = .ok (.iconst 0, 1) := by decide +kernel
theorem dL_law_1493 : decode cL_law 1493 = .ok (.laload, 1) := by decide +kernel
theorem dL_law_1494 : decode cL_law 1494 = .ok (.iload 6, 2) := by decide +kernel
theorem dL_law_1496 : decode cL_law 1496 = .ok (.i2l, 1) := by decide +kernel
theorem dL_law_1497 : decode cL_law 1497 = .ok (.lcmp, 1) := by decide +kernel
theorem dL_law_1498 : decode cL_law 1498 = .ok (.ifCond .eq 5, 3) := by decide +kernel
theorem dL_law_1501 : decode cL_law 1501 = .ok (.iconst 0, 1) := by decide +kernel
theorem dL_law_1502 : decode cL_law 1502 = .ok (.ireturn, 1) := by decide +kernel
theorem dL_law_1503 : decode cL_law 1503 = .ok (.goto 139, 3) := by decide +kernel
theorem dL_law_1506 : decode cL_law 1506 = .ok (.aload_n 1, 1) := by decide +kernel
theorem dL_law_1507 : decode cL_law 1507 = .ok (.aload_n 0, 1) := by decide +kernel
theorem dL_law_1508 : decode cL_law 1508 = .ok (.iload 4, 2) := by decide +kernel
theorem dL_law_1510 : decode cL_law 1510 = .ok (.iconst 1, 1) := by decide +kernel
theorem dL_law_1511 : decode cL_law 1511 = .ok (.iadd, 1) := by decide +kernel
theorem dL_law_1512 : decode cL_law 1512 = .ok (.iaload, 1) := by decide +kernel
theorem dL_law_1513 : decode cL_law 1513 = .ok (.aload_n 0, 1) := by decide +kernel
theorem dL_law_1514 : decode cL_law 1514 = .ok (.iload 4, 2) := by decide +kernel
theorem dL_law_1516 : decode cL_law 1516 = .ok (.iconst 2, 1) := by decide +kernel
theorem dL_law_1517 : decode cL_law 1517 = .ok (.iadd, 1) := by decide +kernel
theorem dL_law_1518 : decode cL_law 1518 = .ok (.iaload, 1) := by decide +kernel
theorem dL_law_1519 : decode cL_law 1519 = .ok (.aload_n 0, 1) := by decide +kernel
theorem dL_law_1520 : decode cL_law 1520 = .ok (.iload 4, 2) := by decide +kernel
theorem dL_law_1522 : decode cL_law 1522 = .ok (.iconst 3, 1) := by decide +kernel
theorem dL_law_1523 : decode cL_law 1523 = .ok (.iadd, 1) := by decide +kernel
theorem dL_law_1524 : decode cL_law 1524 = .ok (.iaload, 1) := by decide +kernel
theorem dL_law_1525 : decode cL_law 1525 = .ok (.aload_n 3, 1) := by decide +kernel
theorem dL_law_1526 : decode cL_law 1526 = .ok (.invokestatic 158, 3) := by decide +kernel
theorem dL_law_1529 : decode cL_law 1529 = .ok (.istore 5, 2) := by decide +kernel
theorem dL_law_1531 : decode cL_law 1531 = .ok (.aload_n 2, 1) := by decide +kernel
theorem dL_law_1532 : decode cL_law 1532 = .ok (.aload_n 0, 1) := by decide +kernel
theorem dL_law_1533 : decode cL_law 1533 = .ok (.iload 4, 2) := by decide +kernel
theorem dL_law_1535 : decode cL_law 1535 = .ok (.iconst 1, 1) := by decide +kernel
theorem dL_law_1536 : decode cL_law 1536 = .ok (.iadd, 1) := by decide +kernel
theorem dL_law_1537 : decode cL_law 1537 = .ok (.iaload, 1) := by decide +kernel
theorem dL_law_1538 : decode cL_law 1538 = .ok (.aload_n 0, 1) := by decide +kernel
theorem dL_law_1539 : decode cL_law 1539 = .ok (.iload 4, 2) := by decide +kernel
theorem dL_law_1541 : decode cL_law 1541 = .ok (.iconst 2, 1) := by decide +kernel
theorem dL_law_1542 : decode cL_law 1542 = .ok (.iadd, 1) := by decide +kernel
theorem dL_law_1543 : decode cL_law 1543 = .ok (.iaload, 1) := by decide +kernel
theorem dL_law_1544 : decode cL_law 1544 = .ok (.aload_n 0, 1) := by decide +kernel
theorem dL_law_1545 : decode cL_law 1545 = .ok (.iload 4, 2) := by decide +kernel
theorem dL_law_1547 : decode cL_law 1547 = .ok (.iconst 3, 1) := by decide +kernel
theorem dL_law_1548 : decode cL_law 1548 = .ok (.iadd, 1) := by decide +kernel
theorem dL_law_1549 : decode cL_law 1549 = .ok (.iaload, 1) := by decide +kernel
theorem dL_law_1550 : decode cL_law 1550 = .ok (.invokevirtual 160, 3) := by decide +kernel
theorem dL_law_1553 : decode cL_law 1553 = .ok (.istore 6, 2) := by decide +kernel
theorem dL_law_1555 : decode cL_law 1555 = .ok (.aload_n 2, 1) := by decide +kernel
theorem dL_law_1556 : decode cL_law 1556 = .ok (.invokevirtual 96, 3) := by decide +kernel
theorem dL_law_1559 : decode cL_law 1559 = .ok (.iload 5, 2) := by decide +kernel
theorem dL_law_1561 : decode cL_law 1561 = .ok (.if_icmp .eq 5, 3) := by decide +kernel
theorem dL_law_1564 : decode cL_law 1564 = .ok (.iconst 0, 1) := by decide +kernel
theorem dL_law_1565 : decode cL_law 1565 = .ok (.ireturn, 1) := by decide +kernel
theorem dL_law_1566 : decode cL_law 1566 = .ok (.iload 5, 2) := by decide +kernel
theorem dL_law_1568 : decode cL_law 1568 = .ok (.ifCond .ne 15, 3) := by decide +kernel
theorem dL_law_1571 : decode cL_law 1571 = .ok (.aload_n 3, 1) := by decide +kernel
theorem dL_law_1572 : decode cL_law 1572 = .ok (.iconst 0, 1) := by decide +kernel
theorem dL_law_1573 : decode cL_law 1573 = .ok (.laload, 1) := by decide +kernel
theorem dL_law_1574 : decode cL_law 1574 = .ok (.iload 6, 2) := by decide +kernel
theorem dL_law_1576 : decode cL_law 1576 = .ok (.i2l, 1) := by decide +kernel
theorem dL_law_1577 : decode cL_law 1577 = .ok (.lcmp, 1) := by decide +kernel
theorem dL_law_1578 : decode cL_law 1578 = .ok (.ifCond .eq 5, 3) := by decide +kernel
theorem dL_law_1581 : decode cL_law 1581 = .ok (.iconst 0, 1) := by decide +kernel
theorem dL_law_1582 : decode cL_law 1582 = .ok (.ireturn, 1) := by decide +kernel
theorem dL_law_1583 : decode cL_law 1583 = .ok (.goto 59, 3) := by decide +kernel
theorem dL_law_1586 : decode cL_law 1586 = .ok (.aload_n 1, 1) := by decide +kernel
theorem dL_law_1587 : decode cL_law 1587 = .ok (.aload_n 0, 1) := by decide +kernel
theorem dL_law_1588 : decode cL_law 1588 = .ok (.iload 4, 2) := by decide +kernel
theorem dL_law_1590 : decode cL_law 1590 = .ok (.iconst 1, 1) := by decide +kernel
theorem dL_law_1591 : decode cL_law 1591 = .ok (.iadd, 1) := by decide +kernel
theorem dL_law_1592 : decode cL_law 1592 = .ok (.iaload, 1) := by decide +kernel
theorem dL_law_1593 : decode cL_law 1593 = .ok (.aload_n 3, 1) := by decide +kernel
theorem dL_law_1594 : decode cL_law 1594 = .ok (.invokestatic 161, 3) := by decide +kernel
theorem dL_law_1597 : decode cL_law 1597 = .ok (.istore 5, 2) := by decide +kernel
theorem dL_law_1599 : decode cL_law 1599 = .ok (.aload_n 2, 1) := by decide +kernel
theorem dL_law_1600 : decode cL_law 1600 = .ok (.aload_n 0, 1) := by decide +kernel
theorem dL_law_1601 : decode cL_law 1601 = .ok (.iload 4, 2) := by decide +kernel
theorem dL_law_1603 : decode cL_law 1603 = .ok (.iconst 1, 1) := by decide +kernel
theorem dL_law_1604 : decode cL_law 1604 = .ok (.iadd, 1) := by decide +kernel
theorem dL_law_1605 : decode cL_law 1605 = .ok (.iaload, 1) := by decide +kernel
theorem dL_law_1606 : decode cL_law 1606 = .ok (.invokevirtual 163, 3) := by decide +kernel
theorem dL_law_1609 : decode cL_law 1609 = .ok (.istore 6, 2) := by decide +kernel
theorem dL_law_1611 : decode cL_law 1611 = .ok (.aload_n 2, 1) := by decide +kernel
theorem dL_law_1612 : decode cL_law 1612 = .ok (.invokevirtual 96, 3) := by decide +kernel
theorem dL_law_1615 : decode cL_law 1615 = .ok (.iload 5, 2) := by decide +kernel
theorem dL_law_1617 : decode cL_law 1617 = .ok (.if_icmp .eq 5, 3) := by decide +kernel
theorem dL_law_1620 : decode cL_law 1620 = .ok (.iconst 0, 1) := by decide +kernel
theorem dL_law_1621 : decode cL_law 1621 = .ok (.ireturn, 1) := by decide +kernel
theorem dL_law_1622 : decode cL_law 1622 = .ok (.iload 5, 2) := by decide +kernel
theorem dL_law_1624 : decode cL_law 1624 = .ok (.ifCond .ne 15, 3) := by decide +kernel
theorem dL_law_1627 : decode cL_law 1627 = .ok (.aload_n 3, 1) := by decide +kernel
theorem dL_law_1628 : decode cL_law 1628 = .ok (.iconst 0, 1) := by decide +kernel
theorem dL_law_1629 : decode cL_law 1629 = .ok (.laload, 1) := by decide +kernel
theorem dL_law_1630 : decode cL_law 1630 = .ok (.iload 6, 2) := by decide +kernel
theorem dL_law_1632 : decode cL_law 1632 = .ok (.i2l, 1) := by decide +kernel
theorem dL_law_1633 : decode cL_law 1633 = .ok (.lcmp, 1) := by decide +kernel
theorem dL_law_1634 : decode cL_law 1634 = .ok (.ifCond .eq 5, 3) := by decide +kernel
theorem dL_law_1637 : decode cL_law 1637 = .ok (.iconst 0, 1) := by decide +kernel
theorem dL_law_1638 : decode cL_law 1638 = .ok (.ireturn, 1) := by decide +kernel
theorem dL_law_1639 : decode cL_law 1639 = .ok (.goto 3, 3) := by decide +kernel
theorem dL_law_1642 : decode cL_law 1642 = .ok (.iinc 4 6, 3) := by decide +kernel
theorem dL_law_1645 : decode cL_law 1645 = .ok (.goto (-1622), 3) := by decide +kernel
theorem dL_law_1648 : decode cL_law 1648 = .ok (.iconst 1, 1) := by decide +kernel
theorem dL_law_1649 : decode cL_law 1649 = .ok (.ireturn, 1) := by decide +kernel
abbrev vwCl : List vw_C := [(RX0, TX0, 3), (RX1, TX1, 3), (RX2, TX2, 4), (RX3, TX3, 3), (RX4, TX4, 4), (RX5, TX5, 4), (RX6, TX6, 4), (RX7, TX7, 7), (RX8, TX8, 26)]
