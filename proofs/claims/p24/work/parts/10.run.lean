/-! the small machine's heap only grows -/
def mb_Mon (i : mb_I) : Prop := ∀ (d : Nat) (call : mb_C) (k : mb_K) (ls : mb_L) (st : List Value) (σ : mb_S) (r : mb_O × mb_S),
  (∀ (y : Nat) (as : List Value) (σ : mb_S) (o : mb_O) (σ' : mb_S), call y as σ = some (o, σ') → σ.2.1 ≤ σ'.2.1 ∧ σ.2.2 ≤ σ'.2.2) →
  (∀ (pc' : Nat) (ls' : mb_L) (st' : List Value) (σ' : mb_S), k pc' ls' st' σ' = some r → σ'.2.1 ≤ r.2.2.1 ∧ σ'.2.2 ≤ r.2.2.2) →
  i d call k ls st σ = some r → σ.2.1 ≤ r.2.2.1 ∧ σ.2.2 ≤ r.2.2.2
theorem mb_run_mono {P : mb_P} {nl : Nat → Nat} (hP : ∀ y pc i, P y pc = some i → mb_Mon i) : ∀ (n d y pc : Nat) (ls : mb_L) (st : List Value) (σ : mb_S) (r : mb_O × mb_S), mb_run P nl n d y pc ls st σ = some r → σ.2.1 ≤ r.2.2.1 ∧ σ.2.2 ≤ r.2.2.2 := by
  intro n
  induction n with
  | zero => intro d y pc ls st σ r h; cases h
  | succ n ih =>
    intro d y pc ls st σ r h
    unfold mb_run at h
    split at h
    · cases h
    · rename_i i hi
      refine hP y pc i hi _ _ _ _ _ _ _ (fun y' as σ1 o σ2 hc => ?_) (fun pc' ls' st' σ' hk => ih d y pc' ls' st' σ' r hk) h
      split at hc
      · cases hc
      · split at hc
        · exact ih _ _ _ _ _ _ _ hc
        · cases hc
/-! a method's body from its entry -/
theorem mb_ent_args : ∀ (as : List Value) (j : Nat), mb_c1 as = true → ∀ (i : Nat) (v : Value), as[i]? = some v → (j + i, v) ∈ lv_args j as ∧ v.category = 1 := by
  intro as
  induction as with
  | nil => intro j h i v hv; simp at hv
  | cons a as ih =>
    intro j h i v hv
    have h9 : (a.category == 1) = true ∧ mb_c1 as = true := by simpa [mb_c1] using h
    have h1 : a.category = 1 := by simpa using h9.1
    have e : lv_args j (a :: as) = (j, a) :: lv_args (j + 1) as := by simp [lv_args, h1]
    rw [e]
    cases i with
    | zero =>
      simp at hv
      subst hv
      exact ⟨List.mem_cons_self, h1⟩
    | succ i =>
      have h3 := ih (j + 1) h9.2 i v (by simpa using hv)
      exact ⟨List.mem_cons_of_mem _ (by rw [show j + (i + 1) = j + 1 + i by omega]; exact h3.1), h3.2⟩
theorem mb_sl_len {as : List Value} (h : mb_c1 as = true) : (lg_sl as).length = as.length := by
  induction as with
  | nil => rfl
  | cons a as ih =>
    have h9 : (a.category == 1) = true ∧ mb_c1 as = true := by simpa [mb_c1] using h
    have h1 : a.category = 1 := by simpa using h9.1
    have := ih h9.2
    simp [lg_sl, h1] at this ⊢
    exact this
theorem mb_ent_LS {as : List Value} {nL : Nat} (h : mb_c1 as = true) (hl : as.length ≤ nL) : mb_LS nL (mb_ent nL as) ((lg_sl as ++ List.replicate (nL - (lg_sl as).length) Slot.unset).toArray) := by
  have h1 := lv_entry as (n := nL) (by rw [mb_sl_len h]; exact hl)
  refine ⟨by simp [mb_ent]; omega, h1.1, h1.2.1, fun i v hv => ?_⟩
  have hv2 : as[i]? = some v := by
    unfold mb_ent at hv
    by_cases hi : i < as.length
    · rw [List.getElem?_append_left (by simpa using hi), List.getElem?_map] at hv
      cases ha : as[i]? with
      | none => rw [ha] at hv; cases hv
      | some w => rw [ha] at hv; cases hv; rfl
    · rw [List.getElem?_append_right (by simpa using hi)] at hv
      rw [List.getElem?_replicate] at hv
      split at hv <;> cases hv
  have h2 := mb_ent_args as 0 h i v hv2
  rw [Nat.zero_add] at h2
  exact ⟨h1.2.2 (i, v) h2.1, h2.2⟩
section MBZ
variable {l : Launch} {D : va_G} {cT : Nat → ClassId} {s0 : State} {args0 : Array Value} {M : mb_M}
/-- the program fits the tables: every row is sound -/
def mb_Pok (l : Launch) (D : va_G) (cT : Nat → ClassId) (s0 : State) (M : mb_M) (P : mb_P) (nl : Nat → Nat) : Prop :=
  (∀ y pc i, P y pc = some i → mb_Mon i ∧ ∀ q, M[y]? = some q → mb_Snd l D cT s0 M q.1.cls q.1.name q.2.1 q.2.2.1 q.2.2.2.1 q.2.2.2.2 pc i) ∧ (∀ y q, M[y]? = some q → nl y = q.2.2.1 ∧ plainName q.1.cls = true)
theorem mb_throws {own nm : String} {cc : ByteArray} {nL : Nat} {ret : Option FieldType} {hh : List (Nat × Nat × Nat × Nat)} {d : Nat} {p : Program} {e : Env} {R : Room} {s : State} {m : MethodId} {args : Array Value} {below : List Frame} {meth : Method} {c : Code} {o : mb_O} {σ0 σ σ' : mb_S} {Qc : Array Value → State → Outcome → State → Prop} {H : Heap} {locs : List Loc} {ls : mb_L} {LS : Array Slot} {cells slots mc ms pc E : Nat} (hX : mb_Fx l D cT s0 args0) (hC : mb_Cx s0 own nm cc nL ret hh d p R s m meth c) (hR : mb_Rep D cT s0 σ H) (hS : va_S (fun q => s0.heap.size ≤ q) s.heap H locs) (hL : mb_LS nL ls LS) (ho : o = .inr E) (hσ : σ' = mb_th σ) (hT : mb_Thr own cc hh pc E) (hf : 6 ≤ R.frames) (hlo : 222 ≤ R.locals) (hc1 : cells + 1 ≤ mc) (hc2 : slots + 6 ≤ ms) (hc3 : mc ≤ R.cells) (hc4 : ms ≤ R.slots) :
    W p l e R s m args below meth c H locs cells slots (vx_MQ below Qc (mb_XC D cT s0 o σ') args s mc ms (fun q => s0.heap.size ≤ q)) (F0 m pc LS []) := by
  obtain ⟨hx, hb, hr, hml, hown, hlk, hnm, hW, hz, hbase, htab, c1, c2⟩ := hC
  obtain ⟨hout, ik, is, ic, tx, d0, d3, d4, d6, d9, ⟨w1, w1g⟩, w2, w3, w4, w5⟩ := hT
  obtain ⟨sa, hsa⟩ := hX.2.2.2.2.2.2.1 own is tx w3
  have w5' := fun w (h : w ∈ vx_atS own ic (mb_exn E) mb_sup) => List.all_eq_true.mp w5 w h
  simp only [Bool.and_eq_true] at w5'
  refine mb_throwS (A := fun q => s0.heap.size ≤ q) (text := tx) (sa := sa) (names := mb_sup) (cls := mb_exn E) hx hb hX.2.1 hown ?_ ?_ (mb_tr hW w1g (hX.1 _ w1)) (mb_tr hW rfl (hX.1 _ w2)) (vk_R.warm hW hsa) (fun w hw => mb_tr hW (w5' w hw).1 (hX.1 w (w4 w hw))) ?_ ((vx_Zq.moved hW.alike hX.2.2.2.2.1).kept (fun a h1 h2 => hbase a h1)) ((vx_Zq.moved hW.alike hX.2.2.2.2.2.1).kept (fun a h1 h2 => hbase a h1)) hS (hL.2.1.trans hml.symm) d0 d3 d4 d6 d9 (by rw [htab]; exact hout) ?_ ?_ (by omega) (by omega) hlk ?_ hS.2.2 hc1 hc2
  · unfold mb_exn; split <;> decide +kernel
  · decide +kernel
  · intro w hw
    rcases List.mem_cons.mp hw with rfl | hw
    · rfl
    · rcases List.mem_cons.mp hw with rfl | hw
      · rfl
      · exact (w5' w hw).2
  · show 2 + 3 < R.frames; omega
  · show 0 + (13 * (2 + 1) + 43) ≤ R.locals; omega
  · intro t hWt hsz hsame
    refine ⟨E, ho, rfl, ?_⟩
    subst hσ
    refine ⟨by rw [hsz, hR.1]; rfl, Nat.le_succ_of_le hR.2.1, fun q hq => ?_, fun a e' ha => ?_⟩
    · have h9 : q < H.size := by rw [hR.1]; exact Nat.lt_of_lt_of_le hq hR.2.1
      exact (hsame q h9).trans (hR.2.2.1 q hq)
    · have h9 := hR.2.2.2 a e' ha
      exact ⟨Nat.lt_succ_of_lt h9.1, h9.2.kept (hsame a (by rw [hR.1]; exact h9.1))⟩
/-- what the end of a method owes, of a method that is called by its contract -/
theorem mb_ends {own nm : String} {cc : ByteArray} {nL : Nat} {ret : Option FieldType} {hh : List (Nat × Nat × Nat × Nat)} {d : Nat} {p : Program} {e : Env} {R : Room} {s : State} {m : MethodId} {args : Array Value} {below : List Frame} {meth : Method} {c : Code} {o : mb_O} {σ0 σ' : mb_S} (hX : mb_Fx l D cT s0 args0) (hC : mb_Cx s0 own nm cc nL ret hh d p R s m meth c) (hc3 : σ'.2.1 - σ0.2.1 ≤ R.cells) (hc4 : σ'.2.2 - σ0.2.2 ≤ R.slots) :
    mb_Ends D cT s0 own cc nL ret hh p l e R s m args below meth c (vx_MQ below (mb_Qc D cT s0 o σ') (mb_XC D cT s0 o σ') args s (σ'.2.1 - σ0.2.1) (σ'.2.2 - σ0.2.2) (fun q => s0.heap.size ≤ q)) σ0.2.1 σ0.2.2 (o, σ') := by
  intro pc H locs ls LS cells slots σ hR hS hL hc hs
  have hC' := hC
  obtain ⟨hx, hb, hr, hml, hown, hlk, hnm, hW, hz, hbase, htab, c1, c2⟩ := hC
  refine ⟨fun v ty e1 e2 hn hd => ?_, fun v ty e1 e2 hty hv hd => ?_, fun e1 e2 hd => ?_, fun E e1 hT hf hlo => ?_, fun E ce q rest e1 hh0 q1 q2 q3 => ?_⟩
  · cases e1
    have k1 : σ'.2.1 - σ0.2.1 = cells := by omega
    have k2 : σ'.2.2 - σ0.2.2 = slots := by omega
    rw [k1, k2]
    exact vx_ret (W.zret (ty := ty) hx hb (hr.trans e2) hn (fun t ht _ => ⟨_, rfl, rfl, by rw [ht]; exact hR⟩) hS.2.2 hd hlk)
  · cases e1
    have k1 : σ'.2.1 - σ0.2.1 = cells := by omega
    have k2 : σ'.2.2 - σ0.2.2 = slots := by omega
    rw [k1, k2]
    exact vx_ret (W.aret (rt := ty) hx hb (hr.trans e2) hty hv (fun t ht _ => ⟨_, rfl, rfl, by rw [ht]; exact hR⟩) hS.2.2 hd hlk)
  · cases e1
    have k1 : σ'.2.1 - σ0.2.1 = cells := by omega
    have k2 : σ'.2.2 - σ0.2.2 = slots := by omega
    rw [k1, k2]
    exact vx_ret (W.vret hx hb (hr.trans e2) (fun t ht _ => ⟨_, rfl, rfl, by rw [ht]; exact hR⟩) hS.2.2 hd hlk)
  · cases e1
    have k1 : (mb_th σ).2.1 = σ.2.1 + 1 := rfl
    have k2 : (mb_th σ).2.2 = σ.2.2 + 6 := rfl
    exact mb_throws (σ0 := σ0) hX hC' hR hS hL rfl rfl hT hf hlo (by omega) (by omega) hc3 hc4
  · cases e1
    refine vx_out (fun x hx => ?_) hlk q1 q2 q3 (fun t ht _ => ⟨E, rfl, rfl, by rw [ht]; exact hR⟩) hS.2.2 (by omega) (by omega)
    rw [htab, hh0] at hx
    cases hx
theorem mb_sim {P : mb_P} {nl : Nat → Nat} (hX : mb_Fx l D cT s0 args0) (hP : mb_Pok l D cT s0 M P nl) : ∀ n : Nat,
    (∀ (d y pc : Nat) (q : MethodName × ByteArray × Nat × Option FieldType × List (Nat × Nat × Nat × Nat)), M[y]? = some q → ∀ (p : Program) (e : Env) (R : Room) (s : State) (m : MethodId) (args : Array Value) (below : List Frame) (meth : Method) (c : Code) (Q : State → Prop) (nx0 ns0 : Nat) (r : mb_O × mb_S), mb_Cx s0 q.1.cls q.1.name q.2.1 q.2.2.1 q.2.2.2.1 q.2.2.2.2 d p R s m meth c → mb_Ends D cT s0 q.1.cls q.2.1 q.2.2.1 q.2.2.2.1 q.2.2.2.2 p l e R s m args below meth c Q nx0 ns0 r →
      r.2.2.1 ≤ nx0 + R.cells → r.2.2.2 ≤ ns0 + R.slots → ∀ (ls : mb_L) (st : List Value) (σ : mb_S), mb_run P nl n d y pc ls st σ = some r → mb_G D cT s0 q.2.2.1 p l e R s m args below meth c Q nx0 ns0 r pc ls st σ) ∧
    (∀ (d y : Nat) (as : List Value) (σ : mb_S) (o : mb_O) (σ' : mb_S), as.length ≤ nl y → mb_c1 as = true → mb_run P nl n d y 0 (mb_ent (nl y) as) [] σ = some (o, σ') → mb_Met l D cT s0 M d y as σ o σ') := by
  have hmono := mb_run_mono (nl := nl) (fun y pc i h => (hP.1 y pc i h).1)
  intro n
  induction n with
  | zero => exact ⟨fun d y pc q hq p e R s m args below meth c Q nx0 ns0 r hC hE h1 h2 ls st σ h => (by cases h), fun d y as σ o σ' h1 h2 h => (by cases h)⟩
  | succ n ih =>
    have hA : ∀ (d y pc : Nat) (q : MethodName × ByteArray × Nat × Option FieldType × List (Nat × Nat × Nat × Nat)), M[y]? = some q → ∀ (p : Program) (e : Env) (R : Room) (s : State) (m : MethodId) (args : Array Value) (below : List Frame) (meth : Method) (c : Code) (Q : State → Prop) (nx0 ns0 : Nat) (r : mb_O × mb_S), mb_Cx s0 q.1.cls q.1.name q.2.1 q.2.2.1 q.2.2.2.1 q.2.2.2.2 d p R s m meth c → mb_Ends D cT s0 q.1.cls q.2.1 q.2.2.1 q.2.2.2.1 q.2.2.2.2 p l e R s m args below meth c Q nx0 ns0 r →
      r.2.2.1 ≤ nx0 + R.cells → r.2.2.2 ≤ ns0 + R.slots → ∀ (ls : mb_L) (st : List Value) (σ : mb_S), mb_run P nl (n + 1) d y pc ls st σ = some r → mb_G D cT s0 q.2.2.1 p l e R s m args below meth c Q nx0 ns0 r pc ls st σ := by
      intro d y pc q hq p e R s m args below meth c Q nx0 ns0 r hC hE h1 h2 ls st σ h
      unfold mb_run at h
      split at h
      · cases h
      · rename_i i hi
        refine (hP.1 y pc i hi).2 q hq d p e R s m args below meth c Q nx0 ns0 r hC hE h1 h2 _ _ (fun y' as σ1 o σ2 hc => ?_) (fun pc' ls' st' σ' hk => ih.1 d y pc' q hq p e R s m args below meth c Q nx0 ns0 r hC hE h1 h2 ls' st' σ' hk) ls st σ h
        split at hc
        · cases hc
        · rename_i d'
          split at hc
          · rename_i hcc
            have g := hmono n d' y' 0 _ _ _ _ hc
            exact ⟨g.1, g.2, Nat.succ_le_succ (Nat.zero_le _), ih.2 d' y' as σ1 o σ2 hcc.1 hcc.2 hc⟩
          · cases hc
    refine ⟨hA, fun d y as σ o σ' hl hc1 h => ?_⟩
    intro q hq
    have gm := hmono (n + 1) d y 0 _ _ _ _ h
    have gm1 : σ.2.1 ≤ σ'.2.1 := gm.1
    have gm2 : σ.2.2 ≤ σ'.2.2 := gm.2
    obtain ⟨hnl, hpl⟩ := hP.2 y q hq
    have key : ∀ (p : Program) (e : Env) (R : Room) (s : State) (m : MethodId) (below : List Frame) (meth : Method) (c : Code), R.cells = σ'.2.1 - σ.2.1 → R.slots = σ'.2.2 - σ.2.2 → mb_Cx s0 q.1.cls q.1.name q.2.1 q.2.2.1 q.2.2.2.1 q.2.2.2.2 d p R s m meth c → mb_Rep D cT s0 σ s.heap → W p l e R s m as.toArray below meth c s.heap [] 0 0 (vx_MQ below (mb_Qc D cT s0 o σ') (mb_XC D cT s0 o σ') as.toArray s (σ'.2.1 - σ.2.1) (σ'.2.2 - σ.2.2) (fun q => s0.heap.size ≤ q)) (entryFrame m as.toArray q.2.2.1) := by
      intro p e R s m below meth c k1 k2 hC hR
      rw [lg_entry_eq]
      have hL := mb_ent_LS hc1 (show as.length ≤ q.2.2.1 by rw [← hnl]; exact hl)
      rw [hnl] at h
      exact (hA d y 0 q hq p e R s m as.toArray below meth c _ σ.2.1 σ.2.2 (o, σ') hC (mb_ends hX hC (by omega) (by omega)) (by show σ'.2.1 ≤ _; omega) (by show σ'.2.2 ≤ _; omega) _ _ _ h).2 s.heap [] _ 0 0 hR va_S.rf hL rfl rfl
    obtain ⟨y0, bytes, maxL, ret, hh⟩ := q
    cases hh with
    | nil =>
      refine vx_ofW (cc := bytes) (maxL := maxL) (ret := ret) hpl rfl ?_
      intro p e s m args below meth c s₁ B hml htab hv
      obtain ⟨rfl, hW, hR⟩ := hv
      have ht : c.exceptionTable.toList = tableOf [] := by
        cases hl9 : c.exceptionTable.toList with
        | nil => rfl
        | cons x xs => exact (htab x (by rw [hl9]; exact List.mem_cons_self)).elim
      refine key p e _ s m below meth c rfl rfl ⟨B.exec, B.bytes, B.returns, hml, findClass_of_methodNamed B.named, B.notSynchronized, (name_of_methodNamed B.named B.method).1, hW, by rw [hR.1]; exact hR.2.1, hR.2.2.1, ht, Nat.le_refl _, Nat.le_refl _⟩ hR
    | cons h0 hs0 =>
      refine vx_ofWH (cc := bytes) (maxL := maxL) (ret := ret) (hh := h0 :: hs0) hpl rfl ?_
      intro p e s m args below meth c s₁ B hml hv
      obtain ⟨rfl, hW, hR⟩ := hv
      have ht : c.exceptionTable.toList = tableOf (h0 :: hs0) := vx_table (x := y0) B (atoms_spec (ws := [mb_cw (y0, bytes, maxL, ret, h0 :: hs0)]) B.pre _ List.mem_cons_self)
      refine key p e _ s m below meth c rfl rfl ⟨B.exec, B.bytes, B.returns, hml, findClass_of_methodNamed B.named, B.notSynchronized, (name_of_methodNamed B.named B.method).1, hW, by rw [hR.1]; exact hR.2.1, hR.2.2.1, ht, Nat.le_refl _, Nat.le_refl _⟩ hR
end MBZ
