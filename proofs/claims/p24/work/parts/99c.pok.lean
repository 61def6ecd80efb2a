/-! methods of a class that the machine's own rows name, such as java/lang/Math, by the method's name -/
theorem mb_ofF {l : Launch} {y : MethodName} {ws ws' : List Cond} {rm : Room} {Pc : Array Value → State → Prop} {Qc : Array Value → State → Outcome → State → Prop} {XC : String → State → State → Prop} {mc ms : Nat} {free : Addr → Prop} {cc : ByteArray} {maxL : Nat} {ret : Option FieldType}
    (hy : plainFor y = true) (hw : ws = Cond.code y cc maxL ret :: ws')
    (body : ∀ p e s m args below meth c s₁, BodyLoose p l y (headSpec ws rm) cc maxL ret e s m args below meth c s₁ → c.maxLocals = maxL → (∀ x ∈ c.exceptionTable.toList, False) → Pc args s →
      W p l e (headSpec ws rm).room s m args below meth c s.heap [] 0 0 (vx_MQ below Qc XC args s mc ms free) (entryFrame m args maxL)) : vx_Met l y ws rm Pc Qc XC mc ms free := by
  refine MetFree.of_bodySF (code := cc) (maxLocals := maxL) (ret := ret) hy ?_ ?_
  · intro args s m h hn
    obtain ⟨meth, c, h1, h2, h3, h4, h5, h6, -, -⟩ := Cond.code_spec hn (atoms_spec (ws := ws) h _ (by rw [hw]; exact List.mem_cons_self))
    exact ⟨meth, c, h1, h2, h3, h4, h5, h6⟩
  · intro p e s m args below meth c s₁ B hml hP _
    have hh0 : s₁.heap = s.heap := by rw [B.state]; rfl
    have ht : ∀ x ∈ c.exceptionTable.toList, False := by
      obtain ⟨meth9, c9, h1, h2, -, -, -, -, h7, -⟩ := Cond.code_spec B.named (atoms_spec (ws := ws) B.pre _ (by rw [hw]; exact List.mem_cons_self))
      cases Option.some.inj (h1.symm.trans B.method)
      cases Option.some.inj (h2.symm.trans (Stand.of_body B).code)
      intro x hx
      rw [Array.isEmpty_iff.mp h7] at hx
      cases hx
    obtain ⟨t, a1, o, b1, b2, b3⟩ := body p e s m args below meth c s₁ B hml ht hP s₁ hh0 (Stand.of_body B)
    exact ⟨t, o, a1, b1, b2, b3⟩
theorem mb_ofFH {l : Launch} {y : MethodName} {ws ws' : List Cond} {rm : Room} {Pc : Array Value → State → Prop} {Qc : Array Value → State → Outcome → State → Prop} {XC : String → State → State → Prop} {mc ms : Nat} {free : Addr → Prop} {cc : ByteArray} {maxL : Nat} {ret : Option FieldType} {hh : List (Nat × Nat × Nat × Nat)}
    (hy : plainFor y = true) (hw : ws = Cond.codeWith y cc maxL ret hh :: ws')
    (body : ∀ p e s m args below meth c s₁, BodyLoose p l y (headSpec ws rm) cc maxL ret e s m args below meth c s₁ → c.maxLocals = maxL → Pc args s →
      W p l e (headSpec ws rm).room s m args below meth c s.heap [] 0 0 (vx_MQ below Qc XC args s mc ms free) (entryFrame m args maxL)) : vx_Met l y ws rm Pc Qc XC mc ms free := by
  refine MetFree.of_bodySF (code := cc) (maxLocals := maxL) (ret := ret) hy ?_ ?_
  · intro args s m h hn
    obtain ⟨m9, meth, c, hn9, h1, h2, h3, h4, -, h5, h6, -⟩ := Cond.codeWith_spec (atoms_spec (ws := ws) h _ (by rw [hw]; exact List.mem_cons_self))
    cases hn.symm.trans hn9
    exact ⟨meth, c, h1, h2, h3, h4, h5, h6⟩
  · intro p e s m args below meth c s₁ B hml hP _
    have hh0 : s₁.heap = s.heap := by rw [B.state]; rfl
    obtain ⟨t, a1, o, b1, b2, b3⟩ := body p e s m args below meth c s₁ B hml hP s₁ hh0 (Stand.of_body B)
    exact ⟨t, o, a1, b1, b2, b3⟩
section MBZ
variable {l : Launch} {D : va_G} {cT : Nat → ClassId} {s0 : State} {args0 : Array Value} {M : mb_M}
def mb_PokF (l : Launch) (D : va_G) (cT : Nat → ClassId) (s0 : State) (M : mb_M) (P : mb_P) (nl : Nat → Nat) : Prop :=
  (∀ y pc i, P y pc = some i → mb_Mon i ∧ ∀ q, M[y]? = some q → mb_Snd l D cT s0 M q.1.cls q.1.name q.2.1 q.2.2.1 q.2.2.2.1 q.2.2.2.2 pc i) ∧ (∀ y q, M[y]? = some q → nl y = q.2.2.1 ∧ plainFor q.1 = true)
theorem mb_simF {P : mb_P} {nl : Nat → Nat} (hX : mb_Fx l D cT s0 args0) (hP : mb_PokF l D cT s0 M P nl) : ∀ n : Nat,
    (∀ (d y pc : Nat) (q : MethodName × ByteArray × Nat × Option FieldType × List (Nat × Nat × Nat × Nat)), M[y]? = some q → ∀ (p : Program) (e : Env) (R : Room) (s : State) (m : MethodId) (args : Array Value) (below : List Frame) (meth : Method) (c : Code) (Q : State → Prop) (nx0 ns0 : Nat) (r : mb_O × mb_S), mb_Cx s0 q.1.cls q.1.name q.2.1 q.2.2.1 q.2.2.2.1 q.2.2.2.2 d p R s m meth c → mb_Ends D cT s0 q.1.cls q.2.1 q.2.2.1 q.2.2.2.1 q.2.2.2.2 p l e R s m args below meth c Q nx0 ns0 r →
      r.2.2.1 ≤ nx0 + R.cells → r.2.2.2 ≤ ns0 + R.slots → ∀ (ls : mb_L) (st : List Value) (σ : mb_S), mb_run P nl n d y pc ls st σ = some r → mb_G D cT s0 q.2.2.1 p l e R s m args below meth c Q nx0 ns0 r pc ls st σ) ∧
    (∀ (d y : Nat) (as : List Value) (σ : mb_S) (o : mb_O) (σ' : mb_S), as.length ≤ nl y → mb_c1 as = true → mb_run P nl n d y 0 (mb_ent (nl y) as) [] σ = some (o, σ') → mb_Met l D cT s0 M d y as σ o σ') := by
  have hmono := mb_run_mono (nl := nl) (fun y pc i h => (hP.1 y pc i h).1)
  intro n
  induction n with
  | zero => exact ⟨fun d y pc q hq p e R s m args below meth c Q nx0 ns0 r hC hE h1 h2 ls st σ h => (by cases h), fun d y as σ o σ' h1 h2 h => (by cases h)⟩
  | succ n ih =>
    have hA : ∀ (d y pc : Nat) (q : MethodName × ByteArray × Nat × Option FieldType × List (Nat × Nat × Nat × Nat)), M[y]? = some q → ∀ (p : Program) (e : Env) (R : Room) (s : State) (m : MethodId) (args : Array Value) (below : List Frame) (meth : Method) (c : Code) (Q : State → Prop) (nx0 ns0 : Nat) (r : mb_O × mb_S), mb_Cx s0 q.1.cls q.1.name q.2.1 q.2.2.1 q.2.2.2.1 q.2.2.2.2 d p R s m meth c → mb_Ends D cT s0 q.1.cls q.2.1 q.2.2.1 q.2.2.2.1 q.2.2.2.2 p l e R s m args below meth c Q nx0 ns0 r →
      r.2.2.1 ≤ nx0 + R.cells → r.2.2.2 ≤ ns0 + R.slots → ∀ (ls : mb_L) (st : List Value) (σ : mb_S), mb_run P nl (n + 1) d y pc ls st σ = some r → mb_G D cT s0 q.2.2.1 p l e R s m args below meth c Q nx0 ns0 r pc ls st σ := by
      intro d y pc q hq p e R s m args below meth c Q nx0 ns0 r hC hE h1 h2 ls st σ h
      unfold mb_run at h
      split at h
      · cases h
      · rename_i i hi
        refine (hP.1 y pc i hi).2 q hq d p e R s m args below meth c Q nx0 ns0 r hC hE h1 h2 _ _ (fun y' as σ1 o σ2 hc => ?_) (fun pc' ls' st' σ' hk => ih.1 d y pc' q hq p e R s m args below meth c Q nx0 ns0 r hC hE h1 h2 ls' st' σ' hk) ls st σ h
        split at hc
        · cases hc
        · rename_i d'
          split at hc
          · rename_i hcc
            have g := hmono n d' y' 0 _ _ _ _ hc
            exact ⟨g.1, g.2, Nat.succ_le_succ (Nat.zero_le _), ih.2 d' y' as σ1 o σ2 hcc.1 hcc.2 hc⟩
          · cases hc
    refine ⟨hA, fun d y as σ o σ' hl hc1 h => ?_⟩
    intro q hq
    have gm := hmono (n + 1) d y 0 _ _ _ _ h
    have gm1 : σ.2.1 ≤ σ'.2.1 := gm.1
    have gm2 : σ.2.2 ≤ σ'.2.2 := gm.2
    obtain ⟨hnl, hpl⟩ := hP.2 y q hq
    have key : ∀ (p : Program) (e : Env) (R : Room) (s : State) (m : MethodId) (below : List Frame) (meth : Method) (c : Code), R.cells = σ'.2.1 - σ.2.1 → R.slots = σ'.2.2 - σ.2.2 → mb_Cx s0 q.1.cls q.1.name q.2.1 q.2.2.1 q.2.2.2.1 q.2.2.2.2 d p R s m meth c → mb_Rep D cT s0 σ s.heap → W p l e R s m as.toArray below meth c s.heap [] 0 0 (vx_MQ below (mb_Qc D cT s0 o σ') (mb_XC D cT s0 o σ') as.toArray s (σ'.2.1 - σ.2.1) (σ'.2.2 - σ.2.2) (fun q => s0.heap.size ≤ q)) (entryFrame m as.toArray q.2.2.1) := by
      intro p e R s m below meth c k1 k2 hC hR
      rw [lg_entry_eq]
      have hL := mb_ent_LS hc1 (show as.length ≤ q.2.2.1 by rw [← hnl]; exact hl)
      rw [hnl] at h
      exact (hA d y 0 q hq p e R s m as.toArray below meth c _ σ.2.1 σ.2.2 (o, σ') hC (mb_ends hX hC (by omega) (by omega)) (by show σ'.2.1 ≤ _; omega) (by show σ'.2.2 ≤ _; omega) _ _ _ h).2 s.heap [] _ 0 0 hR va_S.rf hL rfl rfl
    obtain ⟨y0, bytes, maxL, ret, hh⟩ := q
    cases hh with
    | nil =>
      refine mb_ofF (cc := bytes) (maxL := maxL) (ret := ret) hpl rfl ?_
      intro p e s m args below meth c s₁ B hml htab hv
      obtain ⟨rfl, hW, hR⟩ := hv
      have ht : c.exceptionTable.toList = tableOf [] := by
        cases hl9 : c.exceptionTable.toList with
        | nil => rfl
        | cons x xs => exact (htab x (by rw [hl9]; exact List.mem_cons_self)).elim
      refine key p e _ s m below meth c rfl rfl ⟨B.exec, B.bytes, B.returns, hml, findClass_of_methodNamed B.named, B.notSynchronized, (name_of_methodNamed B.named B.method).1, hW, by rw [hR.1]; exact hR.2.1, hR.2.2.1, ht, Nat.le_refl _, Nat.le_refl _⟩ hR
    | cons h0 hs0 =>
      refine mb_ofFH (cc := bytes) (maxL := maxL) (ret := ret) (hh := h0 :: hs0) hpl rfl ?_
      intro p e s m args below meth c s₁ B hml hv
      obtain ⟨rfl, hW, hR⟩ := hv
      have ht : c.exceptionTable.toList = tableOf (h0 :: hs0) := vx_table (x := y0) B (atoms_spec (ws := [mb_cw (y0, bytes, maxL, ret, h0 :: hs0)]) B.pre _ List.mem_cons_self)
      refine key p e _ s m below meth c rfl rfl ⟨B.exec, B.bytes, B.returns, hml, findClass_of_methodNamed B.named, B.notSynchronized, (name_of_methodNamed B.named B.method).1, hW, by rw [hR.1]; exact hR.2.1, hR.2.2.1, ht, Nat.le_refl _, Nat.le_refl _⟩ hR
end MBZ
/-! the program fits the tables -/
def mb_Rz (l : Launch) (D : va_G) (cT : Nat → ClassId) (s0 : State) (c : List (Nat × mb_I)) (q : MethodName × ByteArray × Nat × Option FieldType × List (Nat × Nat × Nat × Nat)) : Prop := ∀ pc i, mb_look c pc = some i → mb_Snd l D cT s0 mb_mt q.1.cls q.1.name q.2.1 q.2.2.1 q.2.2.2.1 q.2.2.2.2 pc i
def mb_Al (R : List (Nat × mb_I) → MethodName × ByteArray × Nat × Option FieldType × List (Nat × Nat × Nat × Nat) → Prop) (cs : List (List (Nat × mb_I))) (qs : mb_M) : Prop := ∀ (y : Nat) (c : List (Nat × mb_I)) (q : MethodName × ByteArray × Nat × Option FieldType × List (Nat × Nat × Nat × Nat)), cs[y]? = some c → qs[y]? = some q → R c q
theorem mb_Al_nil {R : List (Nat × mb_I) → MethodName × ByteArray × Nat × Option FieldType × List (Nat × Nat × Nat × Nat) → Prop} : mb_Al R [] [] := fun y c q h _ => by cases y <;> cases h
theorem mb_Al_cons {R : List (Nat × mb_I) → MethodName × ByteArray × Nat × Option FieldType × List (Nat × Nat × Nat × Nat) → Prop} {c : List (Nat × mb_I)} {q : MethodName × ByteArray × Nat × Option FieldType × List (Nat × Nat × Nat × Nat)} {cs : List (List (Nat × mb_I))} {qs : mb_M} (h : R c q) (t : mb_Al R cs qs) : mb_Al R (c :: cs) (q :: qs) := by
  intro y c' q' h1 h2
  cases y with
  | zero => cases h1; cases h2; exact h
  | succ y => exact t y c' q' h1 h2
theorem mb_zrows {l : Launch} {D : va_G} {cT : Nat → ClassId} {s0 : State} {args0 : Array Value} (hX : mb_Fx l D cT s0 args0) : mb_Al (mb_Rz l D cT s0) mb_codes mb_mt := by
  unfold mb_codes mb_mt
  refine mb_Al_cons (show mb_Rz l D cT s0 _ _ from mr_X0_init hX) ?_
  refine mb_Al_cons (show mb_Rz l D cT s0 _ _ from mr_X0_addVersion hX) ?_
  refine mb_Al_cons (show mb_Rz l D cT s0 _ _ from mr_X0_versionAt hX) ?_
  refine mb_Al_cons (show mb_Rz l D cT s0 _ _ from mr_X0_looksAlike hX) ?_
  refine mb_Al_cons (show mb_Rz l D cT s0 _ _ from mr_X1_init hX) ?_
  refine mb_Al_cons (show mb_Rz l D cT s0 _ _ from mr_X1_covers hX) ?_
  refine mb_Al_cons (show mb_Rz l D cT s0 _ _ from mr_X2_init hX) ?_
  refine mb_Al_cons (show mb_Rz l D cT s0 _ _ from mr_X2_keysAhead hX) ?_
  refine mb_Al_cons (show mb_Rz l D cT s0 _ _ from mr_X2_standsAt hX) ?_
  refine mb_Al_cons (show mb_Rz l D cT s0 _ _ from mr_X2_hasRoomFor hX) ?_
  refine mb_Al_cons (show mb_Rz l D cT s0 _ _ from mr_X2_put hX) ?_
  refine mb_Al_cons (show mb_Rz l D cT s0 _ _ from mr_X2_take hX) ?_
  refine mb_Al_cons (show mb_Rz l D cT s0 _ _ from mr_X2_moveKey hX) ?_
  refine mb_Al_cons (show mb_Rz l D cT s0 _ _ from mr_X2_valueAt hX) ?_
  refine mb_Al_cons (show mb_Rz l D cT s0 _ _ from mr_X2_valueAhead hX) ?_
  refine mb_Al_cons (show mb_Rz l D cT s0 _ _ from mr_X2_copy hX) ?_
  refine mb_Al_cons (show mb_Rz l D cT s0 _ _ from mr_X3_init hX) ?_
  refine mb_Al_cons (show mb_Rz l D cT s0 _ _ from mr_X3_versionOf hX) ?_
  refine mb_Al_cons (show mb_Rz l D cT s0 _ _ from mr_X3_keepVersion hX) ?_
  refine mb_Al_cons (show mb_Rz l D cT s0 _ _ from mr_X4_init hX) ?_
  refine mb_Al_cons (show mb_Rz l D cT s0 _ _ from mr_X4_followCut hX) ?_
  refine mb_Al_cons (show mb_Rz l D cT s0 _ _ from mr_X5_init hX) ?_
  refine mb_Al_cons (show mb_Rz l D cT s0 _ _ from mr_X5_hasBone hX) ?_
  refine mb_Al_cons (show mb_Rz l D cT s0 _ _ from mr_X5_curveOf hX) ?_
  refine mb_Al_cons (show mb_Rz l D cT s0 _ _ from mr_X5_addBone hX) ?_
  refine mb_Al_cons (show mb_Rz l D cT s0 _ _ from mr_X5_append hX) ?_
  refine mb_Al_cons (show mb_Rz l D cT s0 _ _ from mr_X5_ownValue hX) ?_
  refine mb_Al_cons (show mb_Rz l D cT s0 _ _ from mr_X5_poseUpwards hX) ?_
  refine mb_Al_cons (show mb_Rz l D cT s0 _ _ from mr_X5_poseAt hX) ?_
  refine mb_Al_cons (show mb_Rz l D cT s0 _ _ from mr_X5_looksLike hX) ?_
  refine mb_Al_cons (show mb_Rz l D cT s0 _ _ from mr_X5_versionOfIt hX) ?_
  refine mb_Al_cons (show mb_Rz l D cT s0 _ _ from mr_X5_fixPoses hX) ?_
  refine mb_Al_cons (show mb_Rz l D cT s0 _ _ from mr_X6_init hX) ?_
  refine mb_Al_cons (show mb_Rz l D cT s0 _ _ from mr_X6_hasFrame hX) ?_
  refine mb_Al_cons (show mb_Rz l D cT s0 _ _ from mr_X6_frameAt hX) ?_
  refine mb_Al_cons (show mb_Rz l D cT s0 _ _ from mr_X6_castingOf hX) ?_
  refine mb_Al_cons (show mb_Rz l D cT s0 _ _ from mr_X6_setCasting hX) ?_
  refine mb_Al_cons (show mb_Rz l D cT s0 _ _ from mr_X6_removeFrames hX) ?_
  refine mb_Al_cons (show mb_Rz l D cT s0 _ _ from mr_X6_follows hX) ?_
  refine mb_Al_cons (show mb_Rz l D cT s0 _ _ from mr_X6_keepsUnlikeVersions hX) ?_
  refine mb_Al_cons (show mb_Rz l D cT s0 _ _ from mr_X7_init hX) ?_
  refine mb_Al_cons (show mb_Rz l D cT s0 _ _ from mr_X7_asset hX) ?_
  refine mb_Al_cons (show mb_Rz l D cT s0 _ _ from mr_X7_bone hX) ?_
  refine mb_Al_cons (show mb_Rz l D cT s0 _ _ from mr_X7_key hX) ?_
  refine mb_Al_cons (show mb_Rz l D cT s0 _ _ from mr_X7_unkey hX) ?_
  refine mb_Al_cons (show mb_Rz l D cT s0 _ _ from mr_X7_publish hX) ?_
  refine mb_Al_cons (show mb_Rz l D cT s0 _ _ from mr_X7_pose hX) ?_
  refine mb_Al_cons (show mb_Rz l D cT s0 _ _ from mr_X7_poseAnew hX) ?_
  refine mb_Al_cons (show mb_Rz l D cT s0 _ _ from mr_X7_ofAsset hX) ?_
  refine mb_Al_cons (show mb_Rz l D cT s0 _ _ from mr_X7_scene hX) ?_
  refine mb_Al_cons (show mb_Rz l D cT s0 _ _ from mr_X7_cast hX) ?_
  refine mb_Al_cons (show mb_Rz l D cT s0 _ _ from mr_X7_cut hX) ?_
  refine mb_Al_cons (show mb_Rz l D cT s0 _ _ from mr_X7_note hX) ?_
  refine mb_Al_cons (show mb_Rz l D cT s0 _ _ from mr_X7_settle hX) ?_
  refine mb_Al_cons (show mb_Rz l D cT s0 _ _ from mr_X7_ofNote hX) ?_
  refine mb_Al_cons (show mb_Rz l D cT s0 _ _ from mr_X7_render hX) ?_
  refine mb_Al_cons (show mb_Rz l D cT s0 _ _ from mr_X7_renderOne hX) ?_
  refine mb_Al_cons (show mb_Rz l D cT s0 _ _ from mr_X7_needs hX) ?_
  refine mb_Al_cons (show mb_Rz l D cT s0 _ _ from mr_X7_mixes hX) ?_
  refine mb_Al_cons (show mb_Rz l D cT s0 _ _ from mr_X7_ofFrame hX) ?_
  refine mb_Al_cons (show mb_Rz l D cT s0 _ _ from mr_X7_kept hX) ?_
  refine mb_Al_cons (show mb_Rz l D cT s0 _ _ from mr_X7_count hX) ?_
  refine mb_Al_cons (show mb_Rz l D cT s0 _ _ from mr_X7_assetAt hX) ?_
  refine mb_Al_cons (show mb_Rz l D cT s0 _ _ from mr_X7_sceneAt hX) ?_
  refine mb_Al_cons (show mb_Rz l D cT s0 _ _ from mr_X7_noteAt hX) ?_
  refine mb_Al_cons (show mb_Rz l D cT s0 _ _ from mr_X7_draftCurve hX) ?_
  refine mb_Al_cons (show mb_Rz l D cT s0 _ _ from mr_X7_rigOf hX) ?_
  refine mb_Al_cons (show mb_Rz l D cT s0 _ _ from mr_X7_isCurveFrame hX) ?_
  refine mb_Al_cons (show mb_Rz l D cT s0 _ _ from mr_X7_canBeShown hX) ?_
  refine mb_Al_cons (show mb_Rz l D cT s0 _ _ from mr_X7_seenVersion hX) ?_
  refine mb_Al_cons (show mb_Rz l D cT s0 _ _ from mr_X7_seenRig hX) ?_
  refine mb_Al_cons (show mb_Rz l D cT s0 _ _ from mr_X7_bonesSeen hX) ?_
  refine mb_Al_cons (show mb_Rz l D cT s0 _ _ from mr_X7_keepVersions hX) ?_
  refine mb_Al_cons (show mb_Rz l D cT s0 _ _ from mr_X7_countRendering hX) ?_
  refine mb_Al_cons (show mb_Rz l D cT s0 _ _ from mr_X7_isStale hX) ?_
  refine mb_Al_cons (show mb_Rz l D cT s0 _ _ from mr_X7_staleFrames hX) ?_
  refine mb_Al_cons (show mb_Rz l D cT s0 _ _ from mr_X7_moveNotes hX) ?_
  refine mb_Al_cons (show mb_Rz l D cT s0 _ _ from mr_X7_openNotesOfScene hX) ?_
  refine mb_Al_cons (show mb_Rz l D cT s0 _ _ from mr_X7_openNotesOfFrame hX) ?_
  refine mb_Al_cons (show mb_Rz l D cT s0 _ _ from mr_X7_scenesThatCast hX) ?_
  refine mb_Al_cons (show mb_Rz l D cT s0 _ _ from mr_X7_allVersions hX) ?_
  refine mb_Al_cons (show mb_Rz l D cT s0 _ _ from mr_X7_allFrames hX) ?_
  refine mb_Al_cons (show mb_Rz l D cT s0 _ _ from mr_X7_allStaleFrames hX) ?_
  refine mb_Al_cons (show mb_Rz l D cT s0 _ _ from mr_X7_allOpenNotes hX) ?_
  refine mb_Al_cons (show mb_Rz l D cT s0 _ _ from mr_J9_floorDiv_7cf53 hX) ?_
  refine mb_Al_cons (show mb_Rz l D cT s0 _ _ from mr_L_call hX) ?_
  refine mb_Al_cons (show mb_Rz l D cT s0 _ _ from mr_L_ask hX) ?_
  refine mb_Al_cons (show mb_Rz l D cT s0 _ _ from mr_L_draw hX) ?_
  refine mb_Al_cons (show mb_Rz l D cT s0 _ _ from mr_L_poses hX) ?_
  refine mb_Al_cons (show mb_Rz l D cT s0 _ _ from mr_L_areFrames hX) ?_
  refine mb_Al_cons (show mb_Rz l D cT s0 _ _ from mr_L_law hX) ?_
  exact mb_Al_nil
theorem mb_znl : (List.range 91).all (fun y => match mb_mt[y]? with | some q => mb_nl y == q.2.2.1 && plainFor q.1 | none => false) = true := by decide +kernel
theorem mb_zpok {l : Launch} {D : va_G} {cT : Nat → ClassId} {s0 : State} {args0 : Array Value} (hX : mb_Fx l D cT s0 args0) : mb_PokF l D cT s0 mb_mt mb_prog mb_nl := by
  refine ⟨fun y pc i h => ⟨(mb_good y pc i h).1, fun q hq => ?_⟩, fun y q hq => ?_⟩
  · unfold mb_prog at h
    split at h
    · rename_i c hc
      exact mb_zrows hX y c q hc hq pc i h
    · cases h
  · have hl : mb_mt.length = 91 := by decide +kernel
    have h1 : y < 91 := by rw [← hl]; exact (List.getElem?_eq_some_iff.mp hq).1
    have h2 := List.all_eq_true.mp mb_znl y (List.mem_range.mpr h1)
    try dsimp only at h2
    rw [hq] at h2
    simpa using h2
