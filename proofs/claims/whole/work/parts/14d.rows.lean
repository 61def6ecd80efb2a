/-! every row of every method is sound -/
section MBX
variable {l : Launch} {D : va_G} {cT : Nat → ClassId} {s0 : State} {args0 : Array Value}
theorem mh_L_asset : ∀ E t i, ([(0, 12, 2)] : List (Nat × Nat × Nat)).lookup E = some (t, i) → mb_Hd RL cL_asset [(0, 8, 11, 13)] 3 E t i := by
  intro E t i h
  by_cases h0 : E = 0
  · subst h0
    obtain ⟨rfl, rfl⟩ : 12 = t ∧ 2 = i := by simpa [List.lookup] using h
    exact ⟨[], ⟨0, 8, 11, 13⟩, [], rfl, (fun _ h => absurd h List.not_mem_nil), rfl, by decide, mw_106, mw_113, Or.inl ⟨2, dL_asset_11, rfl, rfl⟩⟩
  · exfalso
    have hb : (E == 0) = false := beq_false_of_ne h0
    simp [List.lookup, hb] at h
theorem mh_L_bone : ∀ E t i, ([(2, 15, 4), (0, 19, 4)] : List (Nat × Nat × Nat)).lookup E = some (t, i) → mb_Hd RL cL_bone [(0, 10, 13, 19), (0, 10, 17, 13)] 5 E t i := by
  intro E t i h
  by_cases h2 : E = 2
  · subst h2
    obtain ⟨rfl, rfl⟩ : 15 = t ∧ 4 = i := by simpa [List.lookup] using h
    exact ⟨[], ⟨0, 10, 13, 19⟩, [⟨0, 10, 17, 13⟩], rfl, (fun _ h => absurd h List.not_mem_nil), rfl, by decide, mw_223, mw_238, Or.inr ⟨dL_bone_13, rfl⟩⟩
  by_cases h0 : E = 0
  · subst h0
    obtain ⟨rfl, rfl⟩ : 19 = t ∧ 4 = i := by simpa [List.lookup] using h
    exact ⟨[⟨0, 10, 13, 19⟩], ⟨0, 10, 17, 13⟩, [], rfl, (List.forall_mem_cons.mpr ⟨⟨by decide, 2, by decide +kernel, mw_223⟩, (fun _ h => absurd h List.not_mem_nil)⟩), rfl, by decide, mw_106, mw_113, Or.inr ⟨dL_bone_17, rfl⟩⟩
  · exfalso
    have hb : (E == 2) = false ∧ (E == 0) = false := ⟨beq_false_of_ne h2, beq_false_of_ne h0⟩
    simp [List.lookup, hb] at h
theorem mh_L_key : ∀ E t i, ([(2, 21, 7), (1, 25, 7), (0, 29, 7)] : List (Nat × Nat × Nat)).lookup E = some (t, i) → mb_Hd RL cL_key [(0, 16, 19, 19), (0, 16, 23, 25), (0, 16, 27, 13)] 11 E t i := by
  intro E t i h
  by_cases h2 : E = 2
  · subst h2
    obtain ⟨rfl, rfl⟩ : 21 = t ∧ 7 = i := by simpa [List.lookup] using h
    exact ⟨[], ⟨0, 16, 19, 19⟩, [⟨0, 16, 23, 25⟩, ⟨0, 16, 27, 13⟩], rfl, (fun _ h => absurd h List.not_mem_nil), rfl, by decide, mw_223, mw_238, Or.inr ⟨dL_key_19, rfl⟩⟩
  by_cases h1 : E = 1
  · subst h1
    obtain ⟨rfl, rfl⟩ : 25 = t ∧ 7 = i := by simpa [List.lookup] using h
    exact ⟨[⟨0, 16, 19, 19⟩], ⟨0, 16, 23, 25⟩, [⟨0, 16, 27, 13⟩], rfl, (List.forall_mem_cons.mpr ⟨⟨by decide, 2, by decide +kernel, mw_223⟩, (fun _ h => absurd h List.not_mem_nil)⟩), rfl, by decide, mw_283, mw_303, Or.inr ⟨dL_key_23, rfl⟩⟩
  by_cases h0 : E = 0
  · subst h0
    obtain ⟨rfl, rfl⟩ : 29 = t ∧ 7 = i := by simpa [List.lookup] using h
    exact ⟨[⟨0, 16, 19, 19⟩, ⟨0, 16, 23, 25⟩], ⟨0, 16, 27, 13⟩, [], rfl, (List.forall_mem_cons.mpr ⟨⟨by decide, 2, by decide +kernel, mw_223⟩, (List.forall_mem_cons.mpr ⟨⟨by decide, 1, by decide +kernel, mw_283⟩, (fun _ h => absurd h List.not_mem_nil)⟩)⟩), rfl, by decide, mw_106, mw_113, Or.inr ⟨dL_key_27, rfl⟩⟩
  · exfalso
    have hb : (E == 2) = false ∧ (E == 1) = false ∧ (E == 0) = false := ⟨beq_false_of_ne h2, beq_false_of_ne h1, beq_false_of_ne h0⟩
    simp [List.lookup, hb] at h
theorem mh_L_unkey : ∀ E t i, ([(2, 24, 5), (1, 28, 5)] : List (Nat × Nat × Nat)).lookup E = some (t, i) → mb_Hd RL cL_unkey [(0, 19, 22, 19), (0, 19, 26, 25)] 7 E t i := by
  intro E t i h
  by_cases h2 : E = 2
  · subst h2
    obtain ⟨rfl, rfl⟩ : 24 = t ∧ 5 = i := by simpa [List.lookup] using h
    exact ⟨[], ⟨0, 19, 22, 19⟩, [⟨0, 19, 26, 25⟩], rfl, (fun _ h => absurd h List.not_mem_nil), rfl, by decide, mw_223, mw_238, Or.inr ⟨dL_unkey_22, rfl⟩⟩
  by_cases h1 : E = 1
  · subst h1
    obtain ⟨rfl, rfl⟩ : 28 = t ∧ 5 = i := by simpa [List.lookup] using h
    exact ⟨[⟨0, 19, 22, 19⟩], ⟨0, 19, 26, 25⟩, [], rfl, (List.forall_mem_cons.mpr ⟨⟨by decide, 2, by decide +kernel, mw_223⟩, (fun _ h => absurd h List.not_mem_nil)⟩), rfl, by decide, mw_283, mw_303, Or.inr ⟨dL_unkey_26, rfl⟩⟩
  · exfalso
    have hb : (E == 2) = false ∧ (E == 1) = false := ⟨beq_false_of_ne h2, beq_false_of_ne h1⟩
    simp [List.lookup, hb] at h
theorem mh_L_publish : ∀ E t i, ([(2, 13, 3), (0, 16, 3)] : List (Nat × Nat × Nat)).lookup E = some (t, i) → mb_Hd RL cL_publish [(0, 9, 12, 19), (0, 9, 15, 13)] 4 E t i := by
  intro E t i h
  by_cases h2 : E = 2
  · subst h2
    obtain ⟨rfl, rfl⟩ : 13 = t ∧ 3 = i := by simpa [List.lookup] using h
    exact ⟨[], ⟨0, 9, 12, 19⟩, [⟨0, 9, 15, 13⟩], rfl, (fun _ h => absurd h List.not_mem_nil), rfl, by decide, mw_223, mw_238, Or.inl ⟨3, dL_publish_12, rfl, rfl⟩⟩
  by_cases h0 : E = 0
  · subst h0
    obtain ⟨rfl, rfl⟩ : 16 = t ∧ 3 = i := by simpa [List.lookup] using h
    exact ⟨[⟨0, 9, 12, 19⟩], ⟨0, 9, 15, 13⟩, [], rfl, (List.forall_mem_cons.mpr ⟨⟨by decide, 2, by decide +kernel, mw_223⟩, (fun _ h => absurd h List.not_mem_nil)⟩), rfl, by decide, mw_106, mw_113, Or.inl ⟨3, dL_publish_15, rfl, rfl⟩⟩
  · exfalso
    have hb : (E == 2) = false ∧ (E == 0) = false := ⟨beq_false_of_ne h2, beq_false_of_ne h0⟩
    simp [List.lookup, hb] at h
theorem mh_L_pose : ∀ E t i, ([(2, 19, 6), (1, 23, 6)] : List (Nat × Nat × Nat)).lookup E = some (t, i) → mb_Hd RL cL_pose [(0, 14, 17, 19), (0, 14, 21, 25)] 9 E t i := by
  intro E t i h
  by_cases h2 : E = 2
  · subst h2
    obtain ⟨rfl, rfl⟩ : 19 = t ∧ 6 = i := by simpa [List.lookup] using h
    exact ⟨[], ⟨0, 14, 17, 19⟩, [⟨0, 14, 21, 25⟩], rfl, (fun _ h => absurd h List.not_mem_nil), rfl, by decide, mw_223, mw_238, Or.inr ⟨dL_pose_17, rfl⟩⟩
  by_cases h1 : E = 1
  · subst h1
    obtain ⟨rfl, rfl⟩ : 23 = t ∧ 6 = i := by simpa [List.lookup] using h
    exact ⟨[⟨0, 14, 17, 19⟩], ⟨0, 14, 21, 25⟩, [], rfl, (List.forall_mem_cons.mpr ⟨⟨by decide, 2, by decide +kernel, mw_223⟩, (fun _ h => absurd h List.not_mem_nil)⟩), rfl, by decide, mw_283, mw_303, Or.inr ⟨dL_pose_21, rfl⟩⟩
  · exfalso
    have hb : (E == 2) = false ∧ (E == 1) = false := ⟨beq_false_of_ne h2, beq_false_of_ne h1⟩
    simp [List.lookup, hb] at h
theorem mh_L_poseAnew : ∀ E t i, ([(2, 19, 6), (1, 23, 6)] : List (Nat × Nat × Nat)).lookup E = some (t, i) → mb_Hd RL cL_poseAnew [(0, 14, 17, 19), (0, 14, 21, 25)] 9 E t i := by
  intro E t i h
  by_cases h2 : E = 2
  · subst h2
    obtain ⟨rfl, rfl⟩ : 19 = t ∧ 6 = i := by simpa [List.lookup] using h
    exact ⟨[], ⟨0, 14, 17, 19⟩, [⟨0, 14, 21, 25⟩], rfl, (fun _ h => absurd h List.not_mem_nil), rfl, by decide, mw_223, mw_238, Or.inr ⟨dL_poseAnew_17, rfl⟩⟩
  by_cases h1 : E = 1
  · subst h1
    obtain ⟨rfl, rfl⟩ : 23 = t ∧ 6 = i := by simpa [List.lookup] using h
    exact ⟨[⟨0, 14, 17, 19⟩], ⟨0, 14, 21, 25⟩, [], rfl, (List.forall_mem_cons.mpr ⟨⟨by decide, 2, by decide +kernel, mw_223⟩, (fun _ h => absurd h List.not_mem_nil)⟩), rfl, by decide, mw_283, mw_303, Or.inr ⟨dL_poseAnew_21, rfl⟩⟩
  · exfalso
    have hb : (E == 2) = false ∧ (E == 1) = false := ⟨beq_false_of_ne h2, beq_false_of_ne h1⟩
    simp [List.lookup, hb] at h
theorem mh_L_ofAsset : ∀ E t i, ([(2, 15, 4)] : List (Nat × Nat × Nat)).lookup E = some (t, i) → mb_Hd RL cL_ofAsset [(0, 10, 13, 19)] 5 E t i := by
  intro E t i h
  by_cases h2 : E = 2
  · subst h2
    obtain ⟨rfl, rfl⟩ : 15 = t ∧ 4 = i := by simpa [List.lookup] using h
    exact ⟨[], ⟨0, 10, 13, 19⟩, [], rfl, (fun _ h => absurd h List.not_mem_nil), rfl, by decide, mw_223, mw_238, Or.inr ⟨dL_ofAsset_13, rfl⟩⟩
  · exfalso
    have hb : (E == 2) = false := beq_false_of_ne h2
    simp [List.lookup, hb] at h
theorem mh_L_scene : ∀ E t i, ([(1, 13, 3), (0, 16, 3)] : List (Nat × Nat × Nat)).lookup E = some (t, i) → mb_Hd RL cL_scene [(0, 9, 12, 25), (0, 9, 15, 13)] 4 E t i := by
  intro E t i h
  by_cases h1 : E = 1
  · subst h1
    obtain ⟨rfl, rfl⟩ : 13 = t ∧ 3 = i := by simpa [List.lookup] using h
    exact ⟨[], ⟨0, 9, 12, 25⟩, [⟨0, 9, 15, 13⟩], rfl, (fun _ h => absurd h List.not_mem_nil), rfl, by decide, mw_283, mw_303, Or.inl ⟨3, dL_scene_12, rfl, rfl⟩⟩
  by_cases h0 : E = 0
  · subst h0
    obtain ⟨rfl, rfl⟩ : 16 = t ∧ 3 = i := by simpa [List.lookup] using h
    exact ⟨[⟨0, 9, 12, 25⟩], ⟨0, 9, 15, 13⟩, [], rfl, (List.forall_mem_cons.mpr ⟨⟨by decide, 1, by decide +kernel, mw_283⟩, (fun _ h => absurd h List.not_mem_nil)⟩), rfl, by decide, mw_106, mw_113, Or.inl ⟨3, dL_scene_15, rfl, rfl⟩⟩
  · exfalso
    have hb : (E == 1) = false ∧ (E == 0) = false := ⟨beq_false_of_ne h1, beq_false_of_ne h0⟩
    simp [List.lookup, hb] at h
theorem mh_L_cast : ∀ E t i, ([(2, 21, 7), (1, 25, 7)] : List (Nat × Nat × Nat)).lookup E = some (t, i) → mb_Hd RL cL_cast [(0, 16, 19, 19), (0, 16, 23, 25)] 11 E t i := by
  intro E t i h
  by_cases h2 : E = 2
  · subst h2
    obtain ⟨rfl, rfl⟩ : 21 = t ∧ 7 = i := by simpa [List.lookup] using h
    exact ⟨[], ⟨0, 16, 19, 19⟩, [⟨0, 16, 23, 25⟩], rfl, (fun _ h => absurd h List.not_mem_nil), rfl, by decide, mw_223, mw_238, Or.inr ⟨dL_cast_19, rfl⟩⟩
  by_cases h1 : E = 1
  · subst h1
    obtain ⟨rfl, rfl⟩ : 25 = t ∧ 7 = i := by simpa [List.lookup] using h
    exact ⟨[⟨0, 16, 19, 19⟩], ⟨0, 16, 23, 25⟩, [], rfl, (List.forall_mem_cons.mpr ⟨⟨by decide, 2, by decide +kernel, mw_223⟩, (fun _ h => absurd h List.not_mem_nil)⟩), rfl, by decide, mw_283, mw_303, Or.inr ⟨dL_cast_23, rfl⟩⟩
  · exfalso
    have hb : (E == 2) = false ∧ (E == 1) = false := ⟨beq_false_of_ne h2, beq_false_of_ne h1⟩
    simp [List.lookup, hb] at h
theorem mh_L_cut : ∀ E t i, ([(2, 17, 5), (1, 21, 5), (0, 25, 5)] : List (Nat × Nat × Nat)).lookup E = some (t, i) → mb_Hd RL cL_cut [(0, 12, 15, 19), (0, 12, 19, 25), (0, 12, 23, 13)] 7 E t i := by
  intro E t i h
  by_cases h2 : E = 2
  · subst h2
    obtain ⟨rfl, rfl⟩ : 17 = t ∧ 5 = i := by simpa [List.lookup] using h
    exact ⟨[], ⟨0, 12, 15, 19⟩, [⟨0, 12, 19, 25⟩, ⟨0, 12, 23, 13⟩], rfl, (fun _ h => absurd h List.not_mem_nil), rfl, by decide, mw_223, mw_238, Or.inr ⟨dL_cut_15, rfl⟩⟩
  by_cases h1 : E = 1
  · subst h1
    obtain ⟨rfl, rfl⟩ : 21 = t ∧ 5 = i := by simpa [List.lookup] using h
    exact ⟨[⟨0, 12, 15, 19⟩], ⟨0, 12, 19, 25⟩, [⟨0, 12, 23, 13⟩], rfl, (List.forall_mem_cons.mpr ⟨⟨by decide, 2, by decide +kernel, mw_223⟩, (fun _ h => absurd h List.not_mem_nil)⟩), rfl, by decide, mw_283, mw_303, Or.inr ⟨dL_cut_19, rfl⟩⟩
  by_cases h0 : E = 0
  · subst h0
    obtain ⟨rfl, rfl⟩ : 25 = t ∧ 5 = i := by simpa [List.lookup] using h
    exact ⟨[⟨0, 12, 15, 19⟩, ⟨0, 12, 19, 25⟩], ⟨0, 12, 23, 13⟩, [], rfl, (List.forall_mem_cons.mpr ⟨⟨by decide, 2, by decide +kernel, mw_223⟩, (List.forall_mem_cons.mpr ⟨⟨by decide, 1, by decide +kernel, mw_283⟩, (fun _ h => absurd h List.not_mem_nil)⟩)⟩), rfl, by decide, mw_106, mw_113, Or.inr ⟨dL_cut_23, rfl⟩⟩
  · exfalso
    have hb : (E == 2) = false ∧ (E == 1) = false ∧ (E == 0) = false := ⟨beq_false_of_ne h2, beq_false_of_ne h1, beq_false_of_ne h0⟩
    simp [List.lookup, hb] at h
theorem mh_L_note : ∀ E t i, ([(2, 15, 4), (0, 19, 4)] : List (Nat × Nat × Nat)).lookup E = some (t, i) → mb_Hd RL cL_note [(0, 10, 13, 19), (0, 10, 17, 13)] 5 E t i := by
  intro E t i h
  by_cases h2 : E = 2
  · subst h2
    obtain ⟨rfl, rfl⟩ : 15 = t ∧ 4 = i := by simpa [List.lookup] using h
    exact ⟨[], ⟨0, 10, 13, 19⟩, [⟨0, 10, 17, 13⟩], rfl, (fun _ h => absurd h List.not_mem_nil), rfl, by decide, mw_223, mw_238, Or.inr ⟨dL_note_13, rfl⟩⟩
  by_cases h0 : E = 0
  · subst h0
    obtain ⟨rfl, rfl⟩ : 19 = t ∧ 4 = i := by simpa [List.lookup] using h
    exact ⟨[⟨0, 10, 13, 19⟩], ⟨0, 10, 17, 13⟩, [], rfl, (List.forall_mem_cons.mpr ⟨⟨by decide, 2, by decide +kernel, mw_223⟩, (fun _ h => absurd h List.not_mem_nil)⟩), rfl, by decide, mw_106, mw_113, Or.inr ⟨dL_note_17, rfl⟩⟩
  · exfalso
    have hb : (E == 2) = false ∧ (E == 0) = false := ⟨beq_false_of_ne h2, beq_false_of_ne h0⟩
    simp [List.lookup, hb] at h
theorem mh_L_settle : ∀ E t i, ([(2, 13, 3), (0, 16, 3)] : List (Nat × Nat × Nat)).lookup E = some (t, i) → mb_Hd RL cL_settle [(0, 9, 12, 19), (0, 9, 15, 13)] 4 E t i := by
  intro E t i h
  by_cases h2 : E = 2
  · subst h2
    obtain ⟨rfl, rfl⟩ : 13 = t ∧ 3 = i := by simpa [List.lookup] using h
    exact ⟨[], ⟨0, 9, 12, 19⟩, [⟨0, 9, 15, 13⟩], rfl, (fun _ h => absurd h List.not_mem_nil), rfl, by decide, mw_223, mw_238, Or.inl ⟨3, dL_settle_12, rfl, rfl⟩⟩
  by_cases h0 : E = 0
  · subst h0
    obtain ⟨rfl, rfl⟩ : 16 = t ∧ 3 = i := by simpa [List.lookup] using h
    exact ⟨[⟨0, 9, 12, 19⟩], ⟨0, 9, 15, 13⟩, [], rfl, (List.forall_mem_cons.mpr ⟨⟨by decide, 2, by decide +kernel, mw_223⟩, (fun _ h => absurd h List.not_mem_nil)⟩), rfl, by decide, mw_106, mw_113, Or.inl ⟨3, dL_settle_15, rfl, rfl⟩⟩
  · exfalso
    have hb : (E == 2) = false ∧ (E == 0) = false := ⟨beq_false_of_ne h2, beq_false_of_ne h0⟩
    simp [List.lookup, hb] at h
theorem mh_L_ofNote : ∀ E t i, ([(2, 15, 4)] : List (Nat × Nat × Nat)).lookup E = some (t, i) → mb_Hd RL cL_ofNote [(0, 10, 13, 19)] 5 E t i := by
  intro E t i h
  by_cases h2 : E = 2
  · subst h2
    obtain ⟨rfl, rfl⟩ : 15 = t ∧ 4 = i := by simpa [List.lookup] using h
    exact ⟨[], ⟨0, 10, 13, 19⟩, [], rfl, (fun _ h => absurd h List.not_mem_nil), rfl, by decide, mw_223, mw_238, Or.inr ⟨dL_ofNote_13, rfl⟩⟩
  · exfalso
    have hb : (E == 2) = false := beq_false_of_ne h2
    simp [List.lookup, hb] at h
theorem mh_L_render : ∀ E t i, ([(2, 13, 3)] : List (Nat × Nat × Nat)).lookup E = some (t, i) → mb_Hd RL cL_render [(0, 9, 12, 19)] 4 E t i := by
  intro E t i h
  by_cases h2 : E = 2
  · subst h2
    obtain ⟨rfl, rfl⟩ : 13 = t ∧ 3 = i := by simpa [List.lookup] using h
    exact ⟨[], ⟨0, 9, 12, 19⟩, [], rfl, (fun _ h => absurd h List.not_mem_nil), rfl, by decide, mw_223, mw_238, Or.inl ⟨3, dL_render_12, rfl, rfl⟩⟩
  · exfalso
    have hb : (E == 2) = false := beq_false_of_ne h2
    simp [List.lookup, hb] at h
theorem mh_L_renderOne : ∀ E t i, ([(2, 22, 4)] : List (Nat × Nat × Nat)).lookup E = some (t, i) → mb_Hd RL cL_renderOne [(0, 17, 20, 19)] 5 E t i := by
  intro E t i h
  by_cases h2 : E = 2
  · subst h2
    obtain ⟨rfl, rfl⟩ : 22 = t ∧ 4 = i := by simpa [List.lookup] using h
    exact ⟨[], ⟨0, 17, 20, 19⟩, [], rfl, (fun _ h => absurd h List.not_mem_nil), rfl, by decide, mw_223, mw_238, Or.inr ⟨dL_renderOne_20, rfl⟩⟩
  · exfalso
    have hb : (E == 2) = false := beq_false_of_ne h2
    simp [List.lookup, hb] at h
theorem mh_L_needs : ∀ E t i, ([(2, 13, 3)] : List (Nat × Nat × Nat)).lookup E = some (t, i) → mb_Hd RL cL_needs [(0, 9, 12, 19)] 4 E t i := by
  intro E t i h
  by_cases h2 : E = 2
  · subst h2
    obtain ⟨rfl, rfl⟩ : 13 = t ∧ 3 = i := by simpa [List.lookup] using h
    exact ⟨[], ⟨0, 9, 12, 19⟩, [], rfl, (fun _ h => absurd h List.not_mem_nil), rfl, by decide, mw_223, mw_238, Or.inl ⟨3, dL_needs_12, rfl, rfl⟩⟩
  · exfalso
    have hb : (E == 2) = false := beq_false_of_ne h2
    simp [List.lookup, hb] at h
theorem mh_L_mixes : ∀ E t i, ([(2, 13, 3)] : List (Nat × Nat × Nat)).lookup E = some (t, i) → mb_Hd RL cL_mixes [(0, 9, 12, 19)] 4 E t i := by
  intro E t i h
  by_cases h2 : E = 2
  · subst h2
    obtain ⟨rfl, rfl⟩ : 13 = t ∧ 3 = i := by simpa [List.lookup] using h
    exact ⟨[], ⟨0, 9, 12, 19⟩, [], rfl, (fun _ h => absurd h List.not_mem_nil), rfl, by decide, mw_223, mw_238, Or.inl ⟨3, dL_mixes_12, rfl, rfl⟩⟩
  · exfalso
    have hb : (E == 2) = false := beq_false_of_ne h2
    simp [List.lookup, hb] at h
theorem mh_L_ofFrame : ∀ E t i, ([(2, 17, 5)] : List (Nat × Nat × Nat)).lookup E = some (t, i) → mb_Hd RL cL_ofFrame [(0, 12, 15, 19)] 7 E t i := by
  intro E t i h
  by_cases h2 : E = 2
  · subst h2
    obtain ⟨rfl, rfl⟩ : 17 = t ∧ 5 = i := by simpa [List.lookup] using h
    exact ⟨[], ⟨0, 12, 15, 19⟩, [], rfl, (fun _ h => absurd h List.not_mem_nil), rfl, by decide, mw_223, mw_238, Or.inr ⟨dL_ofFrame_15, rfl⟩⟩
  · exfalso
    have hb : (E == 2) = false := beq_false_of_ne h2
    simp [List.lookup, hb] at h
theorem mh_L_kept : ∀ E t i, ([(2, 17, 5)] : List (Nat × Nat × Nat)).lookup E = some (t, i) → mb_Hd RL cL_kept [(0, 12, 15, 19)] 7 E t i := by
  intro E t i h
  by_cases h2 : E = 2
  · subst h2
    obtain ⟨rfl, rfl⟩ : 17 = t ∧ 5 = i := by simpa [List.lookup] using h
    exact ⟨[], ⟨0, 12, 15, 19⟩, [], rfl, (fun _ h => absurd h List.not_mem_nil), rfl, by decide, mw_223, mw_238, Or.inr ⟨dL_kept_15, rfl⟩⟩
  · exfalso
    have hb : (E == 2) = false := beq_false_of_ne h2
    simp [List.lookup, hb] at h
theorem mh_L_count : ∀ E t i, ([(1, 13, 3)] : List (Nat × Nat × Nat)).lookup E = some (t, i) → mb_Hd RL cL_count [(0, 9, 12, 25)] 4 E t i := by
  intro E t i h
  by_cases h1 : E = 1
  · subst h1
    obtain ⟨rfl, rfl⟩ : 13 = t ∧ 3 = i := by simpa [List.lookup] using h
    exact ⟨[], ⟨0, 9, 12, 25⟩, [], rfl, (fun _ h => absurd h List.not_mem_nil), rfl, by decide, mw_283, mw_303, Or.inl ⟨3, dL_count_12, rfl, rfl⟩⟩
  · exfalso
    have hb : (E == 1) = false := beq_false_of_ne h1
    simp [List.lookup, hb] at h
theorem mr_L_asset (hX : mb_Fx l D cT s0 args0) : ∀ pc i, mb_look mc_L_asset pc = some i → mb_Snd l D cT s0 mb_mt RL "asset" cL_asset 3 (some .int) [(0, 8, 11, 13)] pc i := by
  unfold mc_L_asset
  refine mb_l_cons (ms_aload_n dL_asset_0 rfl rfl) ?_
  refine mb_l_cons (ms_iconst dL_asset_1 rfl rfl) ?_
  refine mb_l_cons (ms_aload_n dL_asset_2 rfl rfl) ?_
  refine mb_l_cons (ms_callv (ci := 7) hX (y := 41) (y0 := yX7_asset) (bytes := cX7_asset) rfl (C := RX7) (T := TX7) (N := 7) rfl mq_L_7_X7_asset mw_107 mw_108 mw_109 dL_asset_3 mh_L_asset rfl) ?_
  refine mb_l_cons (ms_i2l dL_asset_6 rfl) ?_
  refine mb_l_cons (ms_last hX dL_asset_7 rfl) ?_
  refine mb_l_cons (ms_goto dL_asset_8 rfl) ?_
  refine mb_l_cons (ms_astore_n dL_asset_11 rfl rfl) ?_
  refine mb_l_cons (ms_iconst dL_asset_12 rfl rfl) ?_
  refine mb_l_cons (ms_iret dL_asset_13 rfl) ?_
  refine mb_l_cons (ms_iconst dL_asset_14 rfl rfl) ?_
  refine mb_l_cons (ms_iret dL_asset_15 rfl) ?_
  exact mb_l_nil
theorem mr_L_bone (hX : mb_Fx l D cT s0 args0) : ∀ pc i, mb_look mc_L_bone pc = some i → mb_Snd l D cT s0 mb_mt RL "bone" cL_bone 5 (some .int) [(0, 10, 13, 19), (0, 10, 17, 13)] pc i := by
  unfold mc_L_bone
  refine mb_l_cons (ms_aload_n dL_bone_0 rfl rfl) ?_
  refine mb_l_cons (ms_iconst dL_bone_1 rfl rfl) ?_
  refine mb_l_cons (ms_aload_n dL_bone_2 rfl rfl) ?_
  refine mb_l_cons (ms_iload_n dL_bone_3 rfl rfl) ?_
  refine mb_l_cons (ms_iload_n dL_bone_4 rfl rfl) ?_
  refine mb_l_cons (ms_callv (ci := 7) hX (y := 42) (y0 := yX7_bone) (bytes := cX7_bone) rfl (C := RX7) (T := TX7) (N := 7) rfl mq_L_15_X7_bone mw_224 mw_225 mw_226 dL_bone_5 mh_L_bone rfl) ?_
  refine mb_l_cons (ms_i2l dL_bone_8 rfl) ?_
  refine mb_l_cons (ms_last hX dL_bone_9 rfl) ?_
  refine mb_l_cons (ms_goto dL_bone_10 rfl) ?_
  refine mb_l_cons (ms_astore dL_bone_13 rfl) ?_
  refine mb_l_cons (ms_iconst dL_bone_15 rfl rfl) ?_
  refine mb_l_cons (ms_iret dL_bone_16 rfl) ?_
  refine mb_l_cons (ms_astore dL_bone_17 rfl) ?_
  refine mb_l_cons (ms_iconst dL_bone_19 rfl rfl) ?_
  refine mb_l_cons (ms_iret dL_bone_20 rfl) ?_
  refine mb_l_cons (ms_iconst dL_bone_21 rfl rfl) ?_
  refine mb_l_cons (ms_iret dL_bone_22 rfl) ?_
  exact mb_l_nil
theorem mr_L_key (hX : mb_Fx l D cT s0 args0) : ∀ pc i, mb_look mc_L_key pc = some i → mb_Snd l D cT s0 mb_mt RL "key" cL_key 8 (some .int) [(0, 16, 19, 19), (0, 16, 23, 25), (0, 16, 27, 13)] pc i := by
  unfold mc_L_key
  refine mb_l_cons (ms_aload dL_key_0 rfl) ?_
  refine mb_l_cons (ms_iconst dL_key_2 rfl rfl) ?_
  refine mb_l_cons (ms_aload_n dL_key_3 rfl rfl) ?_
  refine mb_l_cons (ms_iload_n dL_key_4 rfl rfl) ?_
  refine mb_l_cons (ms_iload_n dL_key_5 rfl rfl) ?_
  refine mb_l_cons (ms_iload_n dL_key_6 rfl rfl) ?_
  refine mb_l_cons (ms_iload dL_key_7 rfl) ?_
  refine mb_l_cons (ms_iload dL_key_9 rfl) ?_
  refine mb_l_cons (ms_callv (ci := 7) hX (y := 43) (y0 := yX7_key) (bytes := cX7_key) rfl (C := RX7) (T := TX7) (N := 7) rfl mq_L_21_X7_key mw_284 mw_285 mw_286 dL_key_11 mh_L_key rfl) ?_
  refine mb_l_cons (ms_i2l dL_key_14 rfl) ?_
  refine mb_l_cons (ms_last hX dL_key_15 rfl) ?_
  refine mb_l_cons (ms_goto dL_key_16 rfl) ?_
  refine mb_l_cons (ms_astore dL_key_19 rfl) ?_
  refine mb_l_cons (ms_iconst dL_key_21 rfl rfl) ?_
  refine mb_l_cons (ms_iret dL_key_22 rfl) ?_
  refine mb_l_cons (ms_astore dL_key_23 rfl) ?_
  refine mb_l_cons (ms_iconst dL_key_25 rfl rfl) ?_
  refine mb_l_cons (ms_iret dL_key_26 rfl) ?_
  refine mb_l_cons (ms_astore dL_key_27 rfl) ?_
  refine mb_l_cons (ms_iconst dL_key_29 rfl rfl) ?_
  refine mb_l_cons (ms_iret dL_key_30 rfl) ?_
  refine mb_l_cons (ms_iconst dL_key_31 rfl rfl) ?_
  refine mb_l_cons (ms_iret dL_key_32 rfl) ?_
  exact mb_l_nil
theorem mr_L_unkey (hX : mb_Fx l D cT s0 args0) : ∀ pc i, mb_look mc_L_unkey pc = some i → mb_Snd l D cT s0 mb_mt RL "unkey" cL_unkey 6 (some .int) [(0, 19, 22, 19), (0, 19, 26, 25)] pc i := by
  unfold mc_L_unkey
  refine mb_l_cons (ms_aload dL_unkey_0 rfl) ?_
  refine mb_l_cons (ms_iconst dL_unkey_2 rfl rfl) ?_
  refine mb_l_cons (ms_aload_n dL_unkey_3 rfl rfl) ?_
  refine mb_l_cons (ms_iload_n dL_unkey_4 rfl rfl) ?_
  refine mb_l_cons (ms_iload_n dL_unkey_5 rfl rfl) ?_
  refine mb_l_cons (ms_iload_n dL_unkey_6 rfl rfl) ?_
  refine mb_l_cons (ms_callv (ci := 7) hX (y := 44) (y0 := yX7_unkey) (bytes := cX7_unkey) rfl (C := RX7) (T := TX7) (N := 7) rfl mq_L_27_X7_unkey mw_342 mw_343 mw_344 dL_unkey_7 mh_L_unkey rfl) ?_
  refine mb_l_cons (ms_if_eq dL_unkey_10 rfl rfl) ?_
  refine mb_l_cons (ms_lconst dL_unkey_13 rfl rfl) ?_
  refine mb_l_cons (ms_goto dL_unkey_14 rfl) ?_
  refine mb_l_cons (ms_lconst dL_unkey_17 rfl rfl) ?_
  refine mb_l_cons (ms_last hX dL_unkey_18 rfl) ?_
  refine mb_l_cons (ms_goto dL_unkey_19 rfl) ?_
  refine mb_l_cons (ms_astore dL_unkey_22 rfl) ?_
  refine mb_l_cons (ms_iconst dL_unkey_24 rfl rfl) ?_
  refine mb_l_cons (ms_iret dL_unkey_25 rfl) ?_
  refine mb_l_cons (ms_astore dL_unkey_26 rfl) ?_
  refine mb_l_cons (ms_iconst dL_unkey_28 rfl rfl) ?_
  refine mb_l_cons (ms_iret dL_unkey_29 rfl) ?_
  refine mb_l_cons (ms_iconst dL_unkey_30 rfl rfl) ?_
  refine mb_l_cons (ms_iret dL_unkey_31 rfl) ?_
  exact mb_l_nil
theorem mr_L_publish (hX : mb_Fx l D cT s0 args0) : ∀ pc i, mb_look mc_L_publish pc = some i → mb_Snd l D cT s0 mb_mt RL "publish" cL_publish 4 (some .int) [(0, 9, 12, 19), (0, 9, 15, 13)] pc i := by
  unfold mc_L_publish
  refine mb_l_cons (ms_aload_n dL_publish_0 rfl rfl) ?_
  refine mb_l_cons (ms_iconst dL_publish_1 rfl rfl) ?_
  refine mb_l_cons (ms_aload_n dL_publish_2 rfl rfl) ?_
  refine mb_l_cons (ms_iload_n dL_publish_3 rfl rfl) ?_
  refine mb_l_cons (ms_callv (ci := 7) hX (y := 45) (y0 := yX7_publish) (bytes := cX7_publish) rfl (C := RX7) (T := TX7) (N := 7) rfl mq_L_31_X7_publish mw_354 mw_355 mw_356 dL_publish_4 mh_L_publish rfl) ?_
  refine mb_l_cons (ms_i2l dL_publish_7 rfl) ?_
  refine mb_l_cons (ms_last hX dL_publish_8 rfl) ?_
  refine mb_l_cons (ms_goto dL_publish_9 rfl) ?_
  refine mb_l_cons (ms_astore_n dL_publish_12 rfl rfl) ?_
  refine mb_l_cons (ms_iconst dL_publish_13 rfl rfl) ?_
  refine mb_l_cons (ms_iret dL_publish_14 rfl) ?_
  refine mb_l_cons (ms_astore_n dL_publish_15 rfl rfl) ?_
  refine mb_l_cons (ms_iconst dL_publish_16 rfl rfl) ?_
  refine mb_l_cons (ms_iret dL_publish_17 rfl) ?_
  refine mb_l_cons (ms_iconst dL_publish_18 rfl rfl) ?_
  refine mb_l_cons (ms_iret dL_publish_19 rfl) ?_
  exact mb_l_nil
theorem mr_L_pose (hX : mb_Fx l D cT s0 args0) : ∀ pc i, mb_look mc_L_pose pc = some i → mb_Snd l D cT s0 mb_mt RL "pose" cL_pose 7 (some .int) [(0, 14, 17, 19), (0, 14, 21, 25)] pc i := by
  unfold mc_L_pose
  refine mb_l_cons (ms_aload dL_pose_0 rfl) ?_
  refine mb_l_cons (ms_iconst dL_pose_2 rfl rfl) ?_
  refine mb_l_cons (ms_aload_n dL_pose_3 rfl rfl) ?_
  refine mb_l_cons (ms_iload_n dL_pose_4 rfl rfl) ?_
  refine mb_l_cons (ms_iload_n dL_pose_5 rfl rfl) ?_
  refine mb_l_cons (ms_iload_n dL_pose_6 rfl rfl) ?_
  refine mb_l_cons (ms_iload dL_pose_7 rfl) ?_
  refine mb_l_cons (ms_callv (ci := 7) hX (y := 46) (y0 := yX7_pose) (bytes := cX7_pose) rfl (C := RX7) (T := TX7) (N := 7) rfl mq_L_35_X7_pose mw_399 mw_400 mw_401 dL_pose_9 mh_L_pose rfl) ?_
  refine mb_l_cons (ms_i2l dL_pose_12 rfl) ?_
  refine mb_l_cons (ms_last hX dL_pose_13 rfl) ?_
  refine mb_l_cons (ms_goto dL_pose_14 rfl) ?_
  refine mb_l_cons (ms_astore dL_pose_17 rfl) ?_
  refine mb_l_cons (ms_iconst dL_pose_19 rfl rfl) ?_
  refine mb_l_cons (ms_iret dL_pose_20 rfl) ?_
  refine mb_l_cons (ms_astore dL_pose_21 rfl) ?_
  refine mb_l_cons (ms_iconst dL_pose_23 rfl rfl) ?_
  refine mb_l_cons (ms_iret dL_pose_24 rfl) ?_
  refine mb_l_cons (ms_iconst dL_pose_25 rfl rfl) ?_
  refine mb_l_cons (ms_iret dL_pose_26 rfl) ?_
  exact mb_l_nil
theorem mr_L_poseAnew (hX : mb_Fx l D cT s0 args0) : ∀ pc i, mb_look mc_L_poseAnew pc = some i → mb_Snd l D cT s0 mb_mt RL "poseAnew" cL_poseAnew 7 (some .int) [(0, 14, 17, 19), (0, 14, 21, 25)] pc i := by
  unfold mc_L_poseAnew
  refine mb_l_cons (ms_aload dL_poseAnew_0 rfl) ?_
  refine mb_l_cons (ms_iconst dL_poseAnew_2 rfl rfl) ?_
  refine mb_l_cons (ms_aload_n dL_poseAnew_3 rfl rfl) ?_
  refine mb_l_cons (ms_iload_n dL_poseAnew_4 rfl rfl) ?_
  refine mb_l_cons (ms_iload_n dL_poseAnew_5 rfl rfl) ?_
  refine mb_l_cons (ms_iload_n dL_poseAnew_6 rfl rfl) ?_
  refine mb_l_cons (ms_iload dL_poseAnew_7 rfl) ?_
  refine mb_l_cons (ms_callv (ci := 7) hX (y := 47) (y0 := yX7_poseAnew) (bytes := cX7_poseAnew) rfl (C := RX7) (T := TX7) (N := 7) rfl mq_L_39_X7_poseAnew mw_426 mw_427 mw_428 dL_poseAnew_9 mh_L_poseAnew rfl) ?_
  refine mb_l_cons (ms_i2l dL_poseAnew_12 rfl) ?_
  refine mb_l_cons (ms_last hX dL_poseAnew_13 rfl) ?_
  refine mb_l_cons (ms_goto dL_poseAnew_14 rfl) ?_
  refine mb_l_cons (ms_astore dL_poseAnew_17 rfl) ?_
  refine mb_l_cons (ms_iconst dL_poseAnew_19 rfl rfl) ?_
  refine mb_l_cons (ms_iret dL_poseAnew_20 rfl) ?_
  refine mb_l_cons (ms_astore dL_poseAnew_21 rfl) ?_
  refine mb_l_cons (ms_iconst dL_poseAnew_23 rfl rfl) ?_
  refine mb_l_cons (ms_iret dL_poseAnew_24 rfl) ?_
  refine mb_l_cons (ms_iconst dL_poseAnew_25 rfl rfl) ?_
  refine mb_l_cons (ms_iret dL_poseAnew_26 rfl) ?_
  exact mb_l_nil
theorem mr_L_ofAsset (hX : mb_Fx l D cT s0 args0) : ∀ pc i, mb_look mc_L_ofAsset pc = some i → mb_Snd l D cT s0 mb_mt RL "ofAsset" cL_ofAsset 5 (some .int) [(0, 10, 13, 19)] pc i := by
  unfold mc_L_ofAsset
  refine mb_l_cons (ms_aload_n dL_ofAsset_0 rfl rfl) ?_
  refine mb_l_cons (ms_iconst dL_ofAsset_1 rfl rfl) ?_
  refine mb_l_cons (ms_aload_n dL_ofAsset_2 rfl rfl) ?_
  refine mb_l_cons (ms_iload_n dL_ofAsset_3 rfl rfl) ?_
  refine mb_l_cons (ms_iload_n dL_ofAsset_4 rfl rfl) ?_
  refine mb_l_cons (ms_callv (ci := 7) hX (y := 48) (y0 := yX7_ofAsset) (bytes := cX7_ofAsset) rfl (C := RX7) (T := TX7) (N := 7) rfl mq_L_42_X7_ofAsset mw_434 mw_435 mw_436 dL_ofAsset_5 mh_L_ofAsset rfl) ?_
  refine mb_l_cons (ms_i2l dL_ofAsset_8 rfl) ?_
  refine mb_l_cons (ms_last hX dL_ofAsset_9 rfl) ?_
  refine mb_l_cons (ms_goto dL_ofAsset_10 rfl) ?_
  refine mb_l_cons (ms_astore dL_ofAsset_13 rfl) ?_
  refine mb_l_cons (ms_iconst dL_ofAsset_15 rfl rfl) ?_
  refine mb_l_cons (ms_iret dL_ofAsset_16 rfl) ?_
  refine mb_l_cons (ms_iconst dL_ofAsset_17 rfl rfl) ?_
  refine mb_l_cons (ms_iret dL_ofAsset_18 rfl) ?_
  exact mb_l_nil
theorem mr_L_scene (hX : mb_Fx l D cT s0 args0) : ∀ pc i, mb_look mc_L_scene pc = some i → mb_Snd l D cT s0 mb_mt RL "scene" cL_scene 4 (some .int) [(0, 9, 12, 25), (0, 9, 15, 13)] pc i := by
  unfold mc_L_scene
  refine mb_l_cons (ms_aload_n dL_scene_0 rfl rfl) ?_
  refine mb_l_cons (ms_iconst dL_scene_1 rfl rfl) ?_
  refine mb_l_cons (ms_aload_n dL_scene_2 rfl rfl) ?_
  refine mb_l_cons (ms_iload_n dL_scene_3 rfl rfl) ?_
  refine mb_l_cons (ms_callv (ci := 7) hX (y := 49) (y0 := yX7_scene) (bytes := cX7_scene) rfl (C := RX7) (T := TX7) (N := 7) rfl mq_L_45_X7_scene mw_454 mw_455 mw_456 dL_scene_4 mh_L_scene rfl) ?_
  refine mb_l_cons (ms_i2l dL_scene_7 rfl) ?_
  refine mb_l_cons (ms_last hX dL_scene_8 rfl) ?_
  refine mb_l_cons (ms_goto dL_scene_9 rfl) ?_
  refine mb_l_cons (ms_astore_n dL_scene_12 rfl rfl) ?_
  refine mb_l_cons (ms_iconst dL_scene_13 rfl rfl) ?_
  refine mb_l_cons (ms_iret dL_scene_14 rfl) ?_
  refine mb_l_cons (ms_astore_n dL_scene_15 rfl rfl) ?_
  refine mb_l_cons (ms_iconst dL_scene_16 rfl rfl) ?_
  refine mb_l_cons (ms_iret dL_scene_17 rfl) ?_
  refine mb_l_cons (ms_iconst dL_scene_18 rfl rfl) ?_
  refine mb_l_cons (ms_iret dL_scene_19 rfl) ?_
  exact mb_l_nil
theorem mr_L_cast (hX : mb_Fx l D cT s0 args0) : ∀ pc i, mb_look mc_L_cast pc = some i → mb_Snd l D cT s0 mb_mt RL "cast" cL_cast 8 (some .int) [(0, 16, 19, 19), (0, 16, 23, 25)] pc i := by
  unfold mc_L_cast
  refine mb_l_cons (ms_aload dL_cast_0 rfl) ?_
  refine mb_l_cons (ms_iconst dL_cast_2 rfl rfl) ?_
  refine mb_l_cons (ms_aload_n dL_cast_3 rfl rfl) ?_
  refine mb_l_cons (ms_iload_n dL_cast_4 rfl rfl) ?_
  refine mb_l_cons (ms_iload_n dL_cast_5 rfl rfl) ?_
  refine mb_l_cons (ms_iload_n dL_cast_6 rfl rfl) ?_
  refine mb_l_cons (ms_iload dL_cast_7 rfl) ?_
  refine mb_l_cons (ms_iload dL_cast_9 rfl) ?_
  refine mb_l_cons (ms_callv (ci := 7) hX (y := 50) (y0 := yX7_cast) (bytes := cX7_cast) rfl (C := RX7) (T := TX7) (N := 7) rfl mq_L_48_X7_cast mw_503 mw_504 mw_505 dL_cast_11 mh_L_cast rfl) ?_
  refine mb_l_cons (ms_i2l dL_cast_14 rfl) ?_
  refine mb_l_cons (ms_last hX dL_cast_15 rfl) ?_
  refine mb_l_cons (ms_goto dL_cast_16 rfl) ?_
  refine mb_l_cons (ms_astore dL_cast_19 rfl) ?_
  refine mb_l_cons (ms_iconst dL_cast_21 rfl rfl) ?_
  refine mb_l_cons (ms_iret dL_cast_22 rfl) ?_
  refine mb_l_cons (ms_astore dL_cast_23 rfl) ?_
  refine mb_l_cons (ms_iconst dL_cast_25 rfl rfl) ?_
  refine mb_l_cons (ms_iret dL_cast_26 rfl) ?_
  refine mb_l_cons (ms_iconst dL_cast_27 rfl rfl) ?_
  refine mb_l_cons (ms_iret dL_cast_28 rfl) ?_
  exact mb_l_nil
theorem mr_L_cut (hX : mb_Fx l D cT s0 args0) : ∀ pc i, mb_look mc_L_cut pc = some i → mb_Snd l D cT s0 mb_mt RL "cut" cL_cut 6 (some .int) [(0, 12, 15, 19), (0, 12, 19, 25), (0, 12, 23, 13)] pc i := by
  unfold mc_L_cut
  refine mb_l_cons (ms_aload dL_cut_0 rfl) ?_
  refine mb_l_cons (ms_iconst dL_cut_2 rfl rfl) ?_
  refine mb_l_cons (ms_aload_n dL_cut_3 rfl rfl) ?_
  refine mb_l_cons (ms_iload_n dL_cut_4 rfl rfl) ?_
  refine mb_l_cons (ms_iload_n dL_cut_5 rfl rfl) ?_
  refine mb_l_cons (ms_iload_n dL_cut_6 rfl rfl) ?_
  refine mb_l_cons (ms_callv (ci := 7) hX (y := 51) (y0 := yX7_cut) (bytes := cX7_cut) rfl (C := RX7) (T := TX7) (N := 7) rfl mq_L_51_X7_cut mw_535 mw_536 mw_537 dL_cut_7 mh_L_cut rfl) ?_
  refine mb_l_cons (ms_i2l dL_cut_10 rfl) ?_
  refine mb_l_cons (ms_last hX dL_cut_11 rfl) ?_
  refine mb_l_cons (ms_goto dL_cut_12 rfl) ?_
  refine mb_l_cons (ms_astore dL_cut_15 rfl) ?_
  refine mb_l_cons (ms_iconst dL_cut_17 rfl rfl) ?_
  refine mb_l_cons (ms_iret dL_cut_18 rfl) ?_
  refine mb_l_cons (ms_astore dL_cut_19 rfl) ?_
  refine mb_l_cons (ms_iconst dL_cut_21 rfl rfl) ?_
  refine mb_l_cons (ms_iret dL_cut_22 rfl) ?_
  refine mb_l_cons (ms_astore dL_cut_23 rfl) ?_
  refine mb_l_cons (ms_iconst dL_cut_25 rfl rfl) ?_
  refine mb_l_cons (ms_iret dL_cut_26 rfl) ?_
  refine mb_l_cons (ms_iconst dL_cut_27 rfl rfl) ?_
  refine mb_l_cons (ms_iret dL_cut_28 rfl) ?_
  exact mb_l_nil
theorem mr_L_note (hX : mb_Fx l D cT s0 args0) : ∀ pc i, mb_look mc_L_note pc = some i → mb_Snd l D cT s0 mb_mt RL "note" cL_note 5 (some .int) [(0, 10, 13, 19), (0, 10, 17, 13)] pc i := by
  unfold mc_L_note
  refine mb_l_cons (ms_aload_n dL_note_0 rfl rfl) ?_
  refine mb_l_cons (ms_iconst dL_note_1 rfl rfl) ?_
  refine mb_l_cons (ms_aload_n dL_note_2 rfl rfl) ?_
  refine mb_l_cons (ms_iload_n dL_note_3 rfl rfl) ?_
  refine mb_l_cons (ms_iload_n dL_note_4 rfl rfl) ?_
  refine mb_l_cons (ms_callv (ci := 7) hX (y := 52) (y0 := yX7_note) (bytes := cX7_note) rfl (C := RX7) (T := TX7) (N := 7) rfl mq_L_55_X7_note mw_566 mw_567 mw_568 dL_note_5 mh_L_note rfl) ?_
  refine mb_l_cons (ms_i2l dL_note_8 rfl) ?_
  refine mb_l_cons (ms_last hX dL_note_9 rfl) ?_
  refine mb_l_cons (ms_goto dL_note_10 rfl) ?_
  refine mb_l_cons (ms_astore dL_note_13 rfl) ?_
  refine mb_l_cons (ms_iconst dL_note_15 rfl rfl) ?_
  refine mb_l_cons (ms_iret dL_note_16 rfl) ?_
  refine mb_l_cons (ms_astore dL_note_17 rfl) ?_
  refine mb_l_cons (ms_iconst dL_note_19 rfl rfl) ?_
  refine mb_l_cons (ms_iret dL_note_20 rfl) ?_
  refine mb_l_cons (ms_iconst dL_note_21 rfl rfl) ?_
  refine mb_l_cons (ms_iret dL_note_22 rfl) ?_
  exact mb_l_nil
theorem mr_L_settle (hX : mb_Fx l D cT s0 args0) : ∀ pc i, mb_look mc_L_settle pc = some i → mb_Snd l D cT s0 mb_mt RL "settle" cL_settle 4 (some .int) [(0, 9, 12, 19), (0, 9, 15, 13)] pc i := by
  unfold mc_L_settle
  refine mb_l_cons (ms_aload_n dL_settle_0 rfl rfl) ?_
  refine mb_l_cons (ms_iconst dL_settle_1 rfl rfl) ?_
  refine mb_l_cons (ms_aload_n dL_settle_2 rfl rfl) ?_
  refine mb_l_cons (ms_iload_n dL_settle_3 rfl rfl) ?_
  refine mb_l_cons (ms_callv (ci := 7) hX (y := 53) (y0 := yX7_settle) (bytes := cX7_settle) rfl (C := RX7) (T := TX7) (N := 7) rfl mq_L_58_X7_settle mw_595 mw_596 mw_597 dL_settle_4 mh_L_settle rfl) ?_
  refine mb_l_cons (ms_i2l dL_settle_7 rfl) ?_
  refine mb_l_cons (ms_last hX dL_settle_8 rfl) ?_
  refine mb_l_cons (ms_goto dL_settle_9 rfl) ?_
  refine mb_l_cons (ms_astore_n dL_settle_12 rfl rfl) ?_
  refine mb_l_cons (ms_iconst dL_settle_13 rfl rfl) ?_
  refine mb_l_cons (ms_iret dL_settle_14 rfl) ?_
  refine mb_l_cons (ms_astore_n dL_settle_15 rfl rfl) ?_
  refine mb_l_cons (ms_iconst dL_settle_16 rfl rfl) ?_
  refine mb_l_cons (ms_iret dL_settle_17 rfl) ?_
  refine mb_l_cons (ms_iconst dL_settle_18 rfl rfl) ?_
  refine mb_l_cons (ms_iret dL_settle_19 rfl) ?_
  exact mb_l_nil
theorem mr_L_ofNote (hX : mb_Fx l D cT s0 args0) : ∀ pc i, mb_look mc_L_ofNote pc = some i → mb_Snd l D cT s0 mb_mt RL "ofNote" cL_ofNote 5 (some .int) [(0, 10, 13, 19)] pc i := by
  unfold mc_L_ofNote
  refine mb_l_cons (ms_aload_n dL_ofNote_0 rfl rfl) ?_
  refine mb_l_cons (ms_iconst dL_ofNote_1 rfl rfl) ?_
  refine mb_l_cons (ms_aload_n dL_ofNote_2 rfl rfl) ?_
  refine mb_l_cons (ms_iload_n dL_ofNote_3 rfl rfl) ?_
  refine mb_l_cons (ms_iload_n dL_ofNote_4 rfl rfl) ?_
  refine mb_l_cons (ms_callv (ci := 7) hX (y := 54) (y0 := yX7_ofNote) (bytes := cX7_ofNote) rfl (C := RX7) (T := TX7) (N := 7) rfl mq_L_61_X7_ofNote mw_608 mw_609 mw_610 dL_ofNote_5 mh_L_ofNote rfl) ?_
  refine mb_l_cons (ms_i2l dL_ofNote_8 rfl) ?_
  refine mb_l_cons (ms_last hX dL_ofNote_9 rfl) ?_
  refine mb_l_cons (ms_goto dL_ofNote_10 rfl) ?_
  refine mb_l_cons (ms_astore dL_ofNote_13 rfl) ?_
  refine mb_l_cons (ms_iconst dL_ofNote_15 rfl rfl) ?_
  refine mb_l_cons (ms_iret dL_ofNote_16 rfl) ?_
  refine mb_l_cons (ms_iconst dL_ofNote_17 rfl rfl) ?_
  refine mb_l_cons (ms_iret dL_ofNote_18 rfl) ?_
  exact mb_l_nil
theorem mr_L_render (hX : mb_Fx l D cT s0 args0) : ∀ pc i, mb_look mc_L_render pc = some i → mb_Snd l D cT s0 mb_mt RL "render" cL_render 4 (some .int) [(0, 9, 12, 19)] pc i := by
  unfold mc_L_render
  refine mb_l_cons (ms_aload_n dL_render_0 rfl rfl) ?_
  refine mb_l_cons (ms_iconst dL_render_1 rfl rfl) ?_
  refine mb_l_cons (ms_aload_n dL_render_2 rfl rfl) ?_
  refine mb_l_cons (ms_iload_n dL_render_3 rfl rfl) ?_
  refine mb_l_cons (ms_callv (ci := 7) hX (y := 55) (y0 := yX7_render) (bytes := cX7_render) rfl (C := RX7) (T := TX7) (N := 7) rfl mq_L_64_X7_render mw_615 mw_616 mw_617 dL_render_4 mh_L_render rfl) ?_
  refine mb_l_cons (ms_i2l dL_render_7 rfl) ?_
  refine mb_l_cons (ms_last hX dL_render_8 rfl) ?_
  refine mb_l_cons (ms_goto dL_render_9 rfl) ?_
  refine mb_l_cons (ms_astore_n dL_render_12 rfl rfl) ?_
  refine mb_l_cons (ms_iconst dL_render_13 rfl rfl) ?_
  refine mb_l_cons (ms_iret dL_render_14 rfl) ?_
  refine mb_l_cons (ms_iconst dL_render_15 rfl rfl) ?_
  refine mb_l_cons (ms_iret dL_render_16 rfl) ?_
  exact mb_l_nil
theorem mr_L_renderOne (hX : mb_Fx l D cT s0 args0) : ∀ pc i, mb_look mc_L_renderOne pc = some i → mb_Snd l D cT s0 mb_mt RL "renderOne" cL_renderOne 5 (some .int) [(0, 17, 20, 19)] pc i := by
  unfold mc_L_renderOne
  refine mb_l_cons (ms_aload_n dL_renderOne_0 rfl rfl) ?_
  refine mb_l_cons (ms_iconst dL_renderOne_1 rfl rfl) ?_
  refine mb_l_cons (ms_aload_n dL_renderOne_2 rfl rfl) ?_
  refine mb_l_cons (ms_iload_n dL_renderOne_3 rfl rfl) ?_
  refine mb_l_cons (ms_iload_n dL_renderOne_4 rfl rfl) ?_
  refine mb_l_cons (ms_callv (ci := 7) hX (y := 56) (y0 := yX7_renderOne) (bytes := cX7_renderOne) rfl (C := RX7) (T := TX7) (N := 7) rfl mq_L_67_X7_renderOne mw_664 mw_665 mw_666 dL_renderOne_5 mh_L_renderOne rfl) ?_
  refine mb_l_cons (ms_if_eq dL_renderOne_8 rfl rfl) ?_
  refine mb_l_cons (ms_lconst dL_renderOne_11 rfl rfl) ?_
  refine mb_l_cons (ms_goto dL_renderOne_12 rfl) ?_
  refine mb_l_cons (ms_lconst dL_renderOne_15 rfl rfl) ?_
  refine mb_l_cons (ms_last hX dL_renderOne_16 rfl) ?_
  refine mb_l_cons (ms_goto dL_renderOne_17 rfl) ?_
  refine mb_l_cons (ms_astore dL_renderOne_20 rfl) ?_
  refine mb_l_cons (ms_iconst dL_renderOne_22 rfl rfl) ?_
  refine mb_l_cons (ms_iret dL_renderOne_23 rfl) ?_
  refine mb_l_cons (ms_iconst dL_renderOne_24 rfl rfl) ?_
  refine mb_l_cons (ms_iret dL_renderOne_25 rfl) ?_
  exact mb_l_nil
theorem mr_L_needs (hX : mb_Fx l D cT s0 args0) : ∀ pc i, mb_look mc_L_needs pc = some i → mb_Snd l D cT s0 mb_mt RL "needs" cL_needs 4 (some .int) [(0, 9, 12, 19)] pc i := by
  unfold mc_L_needs
  refine mb_l_cons (ms_aload_n dL_needs_0 rfl rfl) ?_
  refine mb_l_cons (ms_iconst dL_needs_1 rfl rfl) ?_
  refine mb_l_cons (ms_aload_n dL_needs_2 rfl rfl) ?_
  refine mb_l_cons (ms_iload_n dL_needs_3 rfl rfl) ?_
  refine mb_l_cons (ms_callv (ci := 7) hX (y := 57) (y0 := yX7_needs) (bytes := cX7_needs) rfl (C := RX7) (T := TX7) (N := 7) rfl mq_L_71_X7_needs mw_671 mw_672 mw_673 dL_needs_4 mh_L_needs rfl) ?_
  refine mb_l_cons (ms_i2l dL_needs_7 rfl) ?_
  refine mb_l_cons (ms_last hX dL_needs_8 rfl) ?_
  refine mb_l_cons (ms_goto dL_needs_9 rfl) ?_
  refine mb_l_cons (ms_astore_n dL_needs_12 rfl rfl) ?_
  refine mb_l_cons (ms_iconst dL_needs_13 rfl rfl) ?_
  refine mb_l_cons (ms_iret dL_needs_14 rfl) ?_
  refine mb_l_cons (ms_iconst dL_needs_15 rfl rfl) ?_
  refine mb_l_cons (ms_iret dL_needs_16 rfl) ?_
  exact mb_l_nil
theorem mr_L_mixes (hX : mb_Fx l D cT s0 args0) : ∀ pc i, mb_look mc_L_mixes pc = some i → mb_Snd l D cT s0 mb_mt RL "mixes" cL_mixes 4 (some .int) [(0, 9, 12, 19)] pc i := by
  unfold mc_L_mixes
  refine mb_l_cons (ms_aload_n dL_mixes_0 rfl rfl) ?_
  refine mb_l_cons (ms_iconst dL_mixes_1 rfl rfl) ?_
  refine mb_l_cons (ms_aload_n dL_mixes_2 rfl rfl) ?_
  refine mb_l_cons (ms_iload_n dL_mixes_3 rfl rfl) ?_
  refine mb_l_cons (ms_callv (ci := 7) hX (y := 58) (y0 := yX7_mixes) (bytes := cX7_mixes) rfl (C := RX7) (T := TX7) (N := 7) rfl mq_L_74_X7_mixes mw_682 mw_683 mw_684 dL_mixes_4 mh_L_mixes rfl) ?_
  refine mb_l_cons (ms_i2l dL_mixes_7 rfl) ?_
  refine mb_l_cons (ms_last hX dL_mixes_8 rfl) ?_
  refine mb_l_cons (ms_goto dL_mixes_9 rfl) ?_
  refine mb_l_cons (ms_astore_n dL_mixes_12 rfl rfl) ?_
  refine mb_l_cons (ms_iconst dL_mixes_13 rfl rfl) ?_
  refine mb_l_cons (ms_iret dL_mixes_14 rfl) ?_
  refine mb_l_cons (ms_iconst dL_mixes_15 rfl rfl) ?_
  refine mb_l_cons (ms_iret dL_mixes_16 rfl) ?_
  exact mb_l_nil
theorem mr_L_ofFrame (hX : mb_Fx l D cT s0 args0) : ∀ pc i, mb_look mc_L_ofFrame pc = some i → mb_Snd l D cT s0 mb_mt RL "ofFrame" cL_ofFrame 6 (some .int) [(0, 12, 15, 19)] pc i := by
  unfold mc_L_ofFrame
  refine mb_l_cons (ms_aload dL_ofFrame_0 rfl) ?_
  refine mb_l_cons (ms_iconst dL_ofFrame_2 rfl rfl) ?_
  refine mb_l_cons (ms_aload_n dL_ofFrame_3 rfl rfl) ?_
  refine mb_l_cons (ms_iload_n dL_ofFrame_4 rfl rfl) ?_
  refine mb_l_cons (ms_iload_n dL_ofFrame_5 rfl rfl) ?_
  refine mb_l_cons (ms_iload_n dL_ofFrame_6 rfl rfl) ?_
  refine mb_l_cons (ms_callv (ci := 7) hX (y := 59) (y0 := yX7_ofFrame) (bytes := cX7_ofFrame) rfl (C := RX7) (T := TX7) (N := 7) rfl mq_L_77_X7_ofFrame mw_700 mw_701 mw_702 dL_ofFrame_7 mh_L_ofFrame rfl) ?_
  refine mb_l_cons (ms_i2l dL_ofFrame_10 rfl) ?_
  refine mb_l_cons (ms_last hX dL_ofFrame_11 rfl) ?_
  refine mb_l_cons (ms_goto dL_ofFrame_12 rfl) ?_
  refine mb_l_cons (ms_astore dL_ofFrame_15 rfl) ?_
  refine mb_l_cons (ms_iconst dL_ofFrame_17 rfl rfl) ?_
  refine mb_l_cons (ms_iret dL_ofFrame_18 rfl) ?_
  refine mb_l_cons (ms_iconst dL_ofFrame_19 rfl rfl) ?_
  refine mb_l_cons (ms_iret dL_ofFrame_20 rfl) ?_
  exact mb_l_nil
theorem mr_L_kept (hX : mb_Fx l D cT s0 args0) : ∀ pc i, mb_look mc_L_kept pc = some i → mb_Snd l D cT s0 mb_mt RL "kept" cL_kept 6 (some .int) [(0, 12, 15, 19)] pc i := by
  unfold mc_L_kept
  refine mb_l_cons (ms_aload dL_kept_0 rfl) ?_
  refine mb_l_cons (ms_iconst dL_kept_2 rfl rfl) ?_
  refine mb_l_cons (ms_aload_n dL_kept_3 rfl rfl) ?_
  refine mb_l_cons (ms_iload_n dL_kept_4 rfl rfl) ?_
  refine mb_l_cons (ms_iload_n dL_kept_5 rfl rfl) ?_
  refine mb_l_cons (ms_iload_n dL_kept_6 rfl rfl) ?_
  refine mb_l_cons (ms_callv (ci := 7) hX (y := 60) (y0 := yX7_kept) (bytes := cX7_kept) rfl (C := RX7) (T := TX7) (N := 7) rfl mq_L_80_X7_kept mw_719 mw_720 mw_721 dL_kept_7 mh_L_kept rfl) ?_
  refine mb_l_cons (ms_i2l dL_kept_10 rfl) ?_
  refine mb_l_cons (ms_last hX dL_kept_11 rfl) ?_
  refine mb_l_cons (ms_goto dL_kept_12 rfl) ?_
  refine mb_l_cons (ms_astore dL_kept_15 rfl) ?_
  refine mb_l_cons (ms_iconst dL_kept_17 rfl rfl) ?_
  refine mb_l_cons (ms_iret dL_kept_18 rfl) ?_
  refine mb_l_cons (ms_iconst dL_kept_19 rfl rfl) ?_
  refine mb_l_cons (ms_iret dL_kept_20 rfl) ?_
  exact mb_l_nil
theorem mr_L_count (hX : mb_Fx l D cT s0 args0) : ∀ pc i, mb_look mc_L_count pc = some i → mb_Snd l D cT s0 mb_mt RL "count" cL_count 4 (some .int) [(0, 9, 12, 25)] pc i := by
  unfold mc_L_count
  refine mb_l_cons (ms_aload_n dL_count_0 rfl rfl) ?_
  refine mb_l_cons (ms_iconst dL_count_1 rfl rfl) ?_
  refine mb_l_cons (ms_aload_n dL_count_2 rfl rfl) ?_
  refine mb_l_cons (ms_iload_n dL_count_3 rfl rfl) ?_
  refine mb_l_cons (ms_callv (ci := 7) hX (y := 61) (y0 := yX7_count) (bytes := cX7_count) rfl (C := RX7) (T := TX7) (N := 7) rfl mq_L_83_X7_count mw_727 mw_728 mw_729 dL_count_4 mh_L_count rfl) ?_
  refine mb_l_cons (ms_i2l dL_count_7 rfl) ?_
  refine mb_l_cons (ms_last hX dL_count_8 rfl) ?_
  refine mb_l_cons (ms_goto dL_count_9 rfl) ?_
  refine mb_l_cons (ms_astore_n dL_count_12 rfl rfl) ?_
  refine mb_l_cons (ms_iconst dL_count_13 rfl rfl) ?_
  refine mb_l_cons (ms_iret dL_count_14 rfl) ?_
  refine mb_l_cons (ms_iconst dL_count_15 rfl rfl) ?_
  refine mb_l_cons (ms_iret dL_count_16 rfl) ?_
  exact mb_l_nil
end MBX
