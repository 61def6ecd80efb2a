/-! 'throw new E(text)' with the exact growth of the heap: kit/laws/EXCEPTIONS.to-paste's vx_throwS, with one premise changed -/
section MBT
variable {p : Program} {l : Launch} {e : Env} {R : Room} {s : State} {m : MethodId} {args : Array Value} {below : List Frame} {meth : Method} {c : Code} {H : Heap} {locs : List Loc} {cells slots : Nat} {Q : State → Prop}
variable {free : Addr → Prop} {ls : Array Slot} {rest : List Value}
variable {Qc : Array Value → State → Outcome → State → Prop} {XC : String → State → State → Prop}
theorem mb_throwS {cc : ByteArray} {pc : Nat} (hexec : p.tables.exec = Jvm.exec) (hb : c.code = cc) (hl : l.stackTraces = false) {own cls text : String} {names : List String} {ik is ic mc ms sa : Nat} {A : Nat → Prop}
    (hown : s.vm.findClass own = some m.cls) (hcls : Bundle.fit cls = true) (hnames : ∀ n ∈ names, Bundle.fit n = true)
    (hk : (Cond.classLink own ik cls).before args s = true) (hini : (Cond.initialized cls).before args s = true) (hstr : vk_R own is text sa s) (hat : ∀ w ∈ vx_atS own ic cls names, w.before args s = true)
    (hgood : ∀ w ∈ Cond.classLink own ik cls :: Cond.initialized cls :: vx_atS own ic cls names, vx_ot w = true)
    (hU : vx_Zq Bundle.tN "UNASSIGNED_STACK" Bundle.steD A s s.heap) (hN : vx_Zq Bundle.tN "SUPPRESSED_SENTINEL" Bundle.listD A s s.heap) (hS : va_S A s.heap H locs) (hsize : ls.size = c.maxLocals)
    (d0 : decode cc pc = .ok (.new ik, 3)) (d3 : decode cc (pc + 3) = .ok (.dup, 1)) (d4 : decode cc (pc + 4) = .ok (.ldc is, 2)) (d6 : decode cc (pc + 6) = .ok (.invokespecial ic, 3)) (d9 : decode cc (pc + 9) = .ok (.athrow, 1))
    (hout : ∀ x ∈ c.exceptionTable.toList, covers x (pc + 9) = false)
    (hRframes : names.length + 3 < R.frames) (hRlocals : (rest.map fun v => v.category).sum + (13 * (names.length + 1) + 43) ≤ R.locals) (hRcells : cells + 1 ≤ R.cells) (hRslots : slots + 6 ≤ R.slots) (hlocks : meth.locks = false)
    (hx : ∀ t : State, s.WarmedH t.vm → t.heap.size = H.size + 1 → (∀ q : Nat, q < H.size → t.heap[q]? = H[q]?) → XC cls s t)
    (hf : ∀ z ∈ locs, free z.base) (hc : cells + 1 ≤ mc) (hs : slots + 6 ≤ ms) :
    W p l e R s m args below meth c H locs cells slots (vx_MQ below Qc XC args s mc ms free) (F0 m pc ls rest) := by
  intro T hT X
  have htr : e.platform.stackTraces = false := (show e.platform.stackTraces = l.stackTraces by rw [X.admits.platform]).trans hl
  have Y := vx_rebase X (R' := { frames := R.frames, locals := R.locals, cells := 1, slots := 6 }) (Nat.le_refl _) (Nat.le_refl _) hRcells hRslots
  obtain ⟨s', hA⟩ : ∃ z, z = (T.setVm s.vm).setFrames (.invoking m args :: below) := ⟨_, rfl⟩
  rw [← hA] at Y
  have hvm : s'.vm = s.vm := by rw [hA]; rfl
  have hhp : s'.heap = H := by rw [hA]; exact hT
  have hW0 : s.WarmedH s'.vm := by rw [hvm]; exact State.WarmedH.refl s
  have hat' : ∀ w ∈ vx_atS own ic cls names, w.before args s' = true := fun w hw => vx_ot_at hW0 hvm.symm (hgood w (List.mem_cons_of_mem _ (List.mem_cons_of_mem _ hw))) (hat w hw)
  have hk' : (Cond.classLink own ik cls).before args s' = true := vx_ot_at hW0 hvm.symm (hgood _ List.mem_cons_self) hk
  have hini' : (Cond.initialized cls).before args s' = true := vx_ot_at hW0 hvm.symm (hgood _ (List.mem_cons_of_mem _ List.mem_cons_self)) hini
  have hU' : vx_Zq Bundle.tN "UNASSIGNED_STACK" Bundle.steD A s' s'.heap := by rw [hhp]; exact vx_Zq.moved hW0.alike (hU.kept hS.2.1)
  have hN' : vx_Zq Bundle.tN "SUPPRESSED_SENTINEL" Bundle.listD A s' s'.heap := by rw [hhp]; exact vx_Zq.moved hW0.alike (hN.kept hS.2.1)
  have h : ∀ w ∈ Bundle.ownAtoms own ic cls names, w.before args s' = true := vx_own hat' (vx_isRefq hU'.1) (vx_isRefq hN'.1) hU'.2.word hN'.2.word
  have hown' : s'.vm.findClass own = some m.cls := by rw [hvm]; exact hown
  have hins : (Cond.instantiable cls 6).before args s' = true := h _ (by simp [Bundle.ownAtoms])
  obtain ⟨vm₁, cX, kX, hfX, hkX, -, -, X₁, st1⟩ := Y.newCold hexec (own := own) (C := cls) (index := ik) (n := 6) hown' hk' hins hini'
    (g := F0 m pc ls rest) rfl (by rw [hb]; exact d0) (Nat.le_refl _) (Nat.le_refl _)
  generalize hT1 : (T.setVm vm₁).pushCell { cls := cX, slots := kX.instanceTypes.map defaultValue, vm := .none } = T1 at X₁ st1
  have hcat : (Value.ref T.heap.size).category = 1 := rfl
  have hcellA : T1.heap[T.heap.size]? = some (freshCell cX kX) := by rw [← hT1]; exact State.heap_pushCell_size _ _
  have d3' : decode c.code (pc + 3) = .ok (.dup, 1) := by rw [hb]; exact d3
  have d4' : decode c.code (pc + 4) = .ok (.ldc is, 2) := by rw [hb]; exact d4
  have hstr' : vk_R own is text sa s' := vk_R.warm hW0 hstr
  obtain ⟨U, hsteps, hrun, hend, hW, hsame, ce, hce, hO⟩ := X₁.ctorThrowS hexec htr (own := own) (cls := cls) (names := names) (ic := ic) hown' hcls hnames h (fun x hx => nomatch hx) hfX hkX hcellA (by rw [hhp, hT]; exact Nat.le_refl _) (msg := .ref sa) rfl
    (g := { method := m, pc := pc + 6, locals := ls, stack := .ref sa :: .ref T.heap.size :: .ref T.heap.size :: rest, locked := none }) rfl hsize rfl rfl (rest := rest) rfl
    (by rw [hb]; exact d6) (by rw [hb]; exact d9) hout hRframes (by simp only [List.map_cons, List.sum_cons, hcat]; omega) hlocks
  obtain ⟨f1, f2⟩ := vx_frame hsame
  rw [hhp] at f1 f2
  have hWs : s.WarmedH U.vm := State.WarmedH.trans hW0 hW
  have hsz : U.heap.size = H.size + 1 := by
    obtain ⟨-, -, z3, -⟩ := id hsame
    rw [hhp] at z3
    have z4 : T.heap.size < U.heap.size := (Array.getElem?_eq_some_iff.mp hce).1
    rw [hT] at z4
    have z5 : U.heap.size ≤ H.size + 1 := z3
    omega
  have hcl : s.vm.findClass cls = some ce.cls := by
    have h9 := hO.cls
    rw [hvm] at h9
    exact h9
  have hall : s.sameButNew ({ U with vm := s.vm } : State) locs mc ms := by
    subst hA
    obtain ⟨e1, e2⟩ := hsame
    rw [State.setFrames_setFrames] at e1
    have h2 : (T.setVm s.vm).sameButNew ({ U with vm := s.vm } : State) [] (0 + 1) (0 + 6) := ⟨e1, e2⟩
    have h3 := X.same.trans h2
    rw [List.append_nil] at h3
    exact h3.mono hc hs
  refine ⟨U, ?_, .threw T.heap.size, hrun, hend, Or.inr ⟨T.heap.size, rfl, cls, ce, locs, hx U hWs hsz (fun q hq => f2 q hq (fun z hz => nomatch hz)), hce, hO.vm, hcl, hWs, hall, hf⟩⟩
  refine st1 _ ?_
  show Steps p.tables e below (T1.setTop { method := m, pc := pc + 3, locals := ls, stack := .ref T.heap.size :: rest, locked := none }) _
  jvm_step X₁.here [X₁.here.top, hexec, d3', Value.category]
  exact X₁.ldcString hexec (own := own) (text := text) (index := is) (a := sa) hown' hstr'.1 hstr'.2
    (g := { method := m, pc := pc + 4, locals := ls, stack := .ref T.heap.size :: .ref T.heap.size :: rest, locked := none }) rfl d4' _ hsteps
end MBT

/-! calls -/
theorem mb_met {l : Launch} {D : va_G} {cT : Nat → ClassId} {s0 : State} {y : MethodName} {ws : List Cond} {rm : Room} {Pc : Array Value → State → Prop} {o : mb_O} {σ' : mb_S} {mc ms : Nat} {free : Addr → Prop} (h : vx_Met l y ws rm Pc (mb_Qc D cT s0 o σ') (mb_XC D cT s0 o σ') mc ms free) (ho : ∃ v, o = .inl v) : Met l y ws rm Pc (mb_Qc D cT s0 o σ') mc ms free :=
  Jvm.Free.MetFree.mono h (fun _ _ h => h) (fun _ _ _ _ _ h => h) (fun a s oc t _ hq => by
    rcases hq with h | ⟨q, _, E, ce, L, ⟨k, hk, _⟩, _⟩
    · exact h
    · obtain ⟨v, rfl⟩ := ho
      cases hk)
theorem mb_blind {D : va_G} {cT : Nat → ClassId} {s0 : State} {as : List Value} {σ : mb_S} : FrameBlind (mb_Pc D cT s0 as σ) := fun a U g mk h => ⟨h.1, h.2.1, h.2.2⟩
theorem mb_gcw (q : MethodName × ByteArray × Nat × Option FieldType × List (Nat × Nat × Nat × Nat)) : mb_gw (mb_cw q) = true := by
  unfold mb_cw
  split <;> rfl
def mb_Cal (own : String) (idx : Nat) (q : MethodName × ByteArray × Nat × Option FieldType × List (Nat × Nat × Nat × Nat)) (n : Nat) : Prop :=
  mb_cw q ∈ lw_tbl ∧ Cond.initialized q.1.cls ∈ lw_tbl ∧ (q.1.cls ≠ "java/lang/invoke/MethodHandle" ∧ q.1.cls ≠ "java/lang/invoke/VarHandle") ∧ (parseMethodDescriptor q.1.desc).map (fun d => d.parameters.length) = some n ∧ q.2.2.1 ≤ 18
/-- the handler of E at pc goes on at t, with local i forgotten -/
def mb_Hd (own : String) (cc : ByteArray) (hh : List (Nat × Nat × Nat × Nat)) (pc E t i : Nat) : Prop := ∃ (pre : List ExceptionTableEntry) (x : ExceptionTableEntry) (suf : List ExceptionTableEntry), tableOf hh = pre ++ x :: suf ∧ (∀ z ∈ pre, z.catchType ≠ 0 ∧ ∃ F : Nat, mb_exn E ≠ mb_exn F ∧ Cond.classLink own z.catchType (mb_exn F) ∈ lw_tbl) ∧ covers x pc = true ∧ x.catchType ≠ 0 ∧ Cond.classLink own x.catchType (mb_exn E) ∈ lw_tbl ∧ Cond.castable (mb_exn E) (mb_exn E) ∈ lw_tbl ∧
  ((∃ k0 : Fin 4, decode cc x.handlerPc = .ok (.astore_n k0, 1) ∧ (k0 : Nat) = i ∧ t = x.handlerPc + 1) ∨ (decode cc x.handlerPc = .ok (.astore i, 2) ∧ t = x.handlerPc + 2))
section MBC
variable {p : Program} {l : Launch} {e : Env} {R : Room} {s : State} {m : MethodId} {args : Array Value} {below : List Frame} {meth : Method} {c : Code} {H : Heap} {locs : List Loc} {cells slots : Nat} {Q : State → Prop}
variable {D : va_G} {cT : Nat → ClassId} {s0 : State} {mc ms pc : Nat} {LS : Array Slot} {st0 rest : List Value} {a : Array Value} {σ' : mb_S}
theorem mb_vaS {H1 : Heap} {L : List Loc} (hbase : ∀ q : Nat, q < s0.heap.size → s.heap[q]? = s0.heap[q]?) (hz : s.heap.size ≤ σ'.2.1) (hS : va_S (fun q => s0.heap.size ≤ q) s.heap H locs) (hL : ∀ q ∈ L, s0.heap.size ≤ q.base) (hR : mb_Rep D cT s0 σ' H1) : va_S (fun q => s0.heap.size ≤ q) s.heap H1 (locs ++ L) := by
  refine ⟨by rw [hR.1]; exact hz, fun q h1 h2 => ?_, fun q hq => ?_⟩
  · have h3 : q < s0.heap.size := Nat.lt_of_not_le h2
    exact (hR.2.2.1 q h3).trans (hbase q h3).symm
  · rcases List.mem_append.mp hq with h | h
    · exact hS.2.2 q h
    · exact hL q h
theorem mb_aft {v : Option Value} (hr : va_Run p l e R s m args below meth c H locs cells slots mc ms (F0 m pc LS st0) rest (mb_Qc D cT s0 (.inl v) σ' a) (fun q => s0.heap.size ≤ q)) (hbase : ∀ q : Nat, q < s0.heap.size → s.heap[q]? = s0.heap[q]?) (hz : s.heap.size ≤ σ'.2.1) (hS : va_S (fun q => s0.heap.size ≤ q) s.heap H locs)
    (kk : ∀ (H1 : Heap) (locs1 : List Loc), mb_Rep D cT s0 σ' H1 → va_S (fun q => s0.heap.size ≤ q) s.heap H1 locs1 → W p l e R s m args below meth c H1 locs1 (cells + mc) (slots + ms) Q (F0 m (pc + 3) LS (v.toList ++ rest))) : W p l e R s m args below meth c H locs cells slots Q (F0 m pc LS st0) := by
  intro T hT X
  obtain ⟨v', st₀, t, T', L, h0, X', hL, e1, e2, hq, st⟩ := hr T hT X
  obtain ⟨v'', hv, ho, hR⟩ := hq
  cases hv; cases ho
  have hR' : mb_Rep D cT s0 σ' T'.heap := by rw [e1]; exact hR
  obtain ⟨t2, a1, b1⟩ := kk T'.heap (locs ++ L) hR' (mb_vaS hbase hz hS hL hR') T' rfl X'
  exact ⟨t2, st t2 a1, b1⟩
theorem mb_aftX {o : mb_O} (hr : vx_Run p l e R s m args below meth c H locs cells slots mc ms (F0 m pc LS st0) rest (mb_Qc D cT s0 o σ' a) (mb_XC D cT s0 o σ') (fun q => s0.heap.size ≤ q)) (hbase : ∀ q : Nat, q < s0.heap.size → s.heap[q]? = s0.heap[q]?) (hz : s.heap.size ≤ σ'.2.1) (hS : va_S (fun q => s0.heap.size ≤ q) s.heap H locs)
    (kk : ∀ (v : Option Value) (H1 : Heap) (locs1 : List Loc), o = .inl v → mb_Rep D cT s0 σ' H1 → va_S (fun q => s0.heap.size ≤ q) s.heap H1 locs1 → W p l e R s m args below meth c H1 locs1 (cells + mc) (slots + ms) Q (F0 m (pc + 3) LS (v.toList ++ rest)))
    (kx : ∀ (E : Nat) (ce : Cell) (q : Addr) (H1 : Heap) (locs1 : List Loc), o = .inr E → mb_Rep D cT s0 σ' H1 → va_S (fun q => s0.heap.size ≤ q) s.heap H1 locs1 → H1[q]? = some ce → ce.vm = .none → s.vm.findClass (mb_exn E) = some ce.cls → vx_W p l e R s m args below meth c H1 locs1 (cells + mc) (slots + ms) Q (F0 m pc LS rest) q) : W p l e R s m args below meth c H locs cells slots Q (F0 m pc LS st0) := by
  intro T hT X
  rcases hr T hT X with ⟨v', st₀, t, T', L, h0, X', hL, e1, e2, hq, st⟩ | ⟨q, st₀, t, T', L, E, ce, h0, X', hL, e1, e2, hq, hce, hcv, hcl, st⟩
  · obtain ⟨v'', hv, ho, hR⟩ := hq
    cases ho
    have hR' : mb_Rep D cT s0 σ' T'.heap := by rw [e1]; exact hR
    obtain ⟨t2, a1, b1⟩ := kk _ T'.heap (locs ++ L) hv hR' (mb_vaS hbase hz hS hL hR') T' rfl X'
    exact ⟨t2, st t2 a1, b1⟩
  · obtain ⟨k, hk, rfl, hR⟩ := hq
    have hR' : mb_Rep D cT s0 σ' T'.heap := by rw [e1]; exact hR
    obtain ⟨t2, a1, b1⟩ := kx k ce q T'.heap (locs ++ L) hk hR' (mb_vaS hbase hz hS hL hR') (by rw [e1]; exact hce) hcv hcl T' rfl X'
    exact ⟨t2, st.trans a1, b1⟩
end MBC
theorem mb_cat (xs : List Value) : (xs.map fun v => v.category).sum ≤ 2 * xs.length := by
  induction xs with
  | nil => simp
  | cons v vs ih =>
    have : v.category ≤ 2 := by rcases lv_cat v with q | q <;> omega
    simp only [List.map_cons, List.sum_cons, List.length_cons]
    omega
section MBV
variable {l : Launch} {D : va_G} {cT : Nat → ClassId} {s0 : State} {args0 : Array Value} {M : mb_M} {own nm : String} {cc : ByteArray} {nL : Nat} {ret : Option FieldType} {hh : List (Nat × Nat × Nat × Nat)} {pc nx : Nat}
theorem ms_callv {idx y n ci N : Nat} {C : String} {T : u_T} {y0 : MethodName} {bytes : ByteArray} {maxL : Nat} {ret' : Option FieldType} {hs : List (Nat × Nat × Nat)} (hX : mb_Fx l D cT s0 args0) (hq : M[y]? = some (y0, bytes, maxL, ret', [])) (hcl : vwCl[ci]? = some (C, T, N)) (hw : mb_Cal own idx (y0, bytes, maxL, ret', []) n) (hw1 : Cond.methodLink own idx y0 ∈ lw_tbl) (hw2 : Cond.instanceMethod y0 ∈ lw_tbl) (hw3 : Cond.selects C y0 y0 ∈ lw_tbl) (hd : decode cc pc = .ok (.invokevirtual idx, 3)) (hH : ∀ E t i, hs.lookup E = some (t, i) → mb_Hd own cc hh pc E t i) (hn : nx = pc + 3) : mb_Snd l D cT s0 M own nm cc nL ret hh pc (mi_callv y (n + 1) ci nx hs) := by
  subst hn
  intro d p e R s m args below meth c Q nx0 ns0 r hC hE h1 h2 call k hcall hk ls st σ h
  obtain ⟨hx, hb, hr, hml, hown, hlk, hnm, hW, hz, hbase, htab, c1, c2⟩ := hC
  unfold mi_callv at h
  split at h
  · rename_i b as hst
    split at h
    · rename_i hcnd
      obtain ⟨hc1, hlen, hrest⟩ := hcnd
      unfold mb_gf at h
      split at h
      · rename_i c' fs hfs
        split at h
        · rename_i hcc
          subst hcc
          dsimp only at h
          generalize hcr : call y (.ref b :: as) σ = res at h
          obtain _ | ⟨o, σ'⟩ := res
          · cases h
          · obtain ⟨gm1, gm2, hd1, hmet⟩ := hcall _ _ _ _ _ hcr
            have hM := hmet _ hq
            have hst2 : st = as.reverse ++ .ref b :: st.drop (n + 1) := by
              have e1 : st.take (n + 1) = as.reverse ++ [.ref b] := by rw [← List.reverse_reverse (st.take (n + 1)), hst]; simp
              calc st = st.take (n + 1) ++ st.drop (n + 1) := (List.take_append_drop _ _).symm
                _ = as.reverse ++ .ref b :: st.drop (n + 1) := by rw [e1]; simp
            have hasl : as.length = n := by
              have : (st.take (n + 1)).reverse.length = n + 1 := by rw [List.length_reverse]; exact hlen
              rw [hst] at this
              simpa using this
            obtain ⟨u1, u2, u3, u4, u5⟩ := hw
            have hrs : (((st.drop (n + 1)).map fun v => v.category).sum) ≤ 8 := by have := mb_cat (st.drop (n + 1)); omega
            have hgo : ∀ (H : Heap) (locs : List Loc) (LS : Array Slot) (cells slots : Nat), mb_Rep D cT s0 σ H → va_S (fun q => s0.heap.size ≤ q) s.heap H locs → mb_LS nL ls LS → σ.2.1 = nx0 + cells → σ.2.2 = ns0 + slots → σ'.2.1 ≤ r.2.2.1 → σ'.2.2 ≤ r.2.2.2 →
                (∀ (v : Option Value) (H1 : Heap) (locs1 : List Loc), o = .inl v → mb_Rep D cT s0 σ' H1 → va_S (fun q => s0.heap.size ≤ q) s.heap H1 locs1 → W p l e R s m args below meth c H1 locs1 (cells + (σ'.2.1 - σ.2.1)) (slots + (σ'.2.2 - σ.2.2)) Q (F0 m (pc + 3) LS (v.toList ++ st.drop (n + 1)))) →
                (∀ (E : Nat) (ce : Cell) (q : Addr) (H1 : Heap) (locs1 : List Loc), o = .inr E → mb_Rep D cT s0 σ' H1 → va_S (fun q => s0.heap.size ≤ q) s.heap H1 locs1 → H1[q]? = some ce → ce.vm = .none → s.vm.findClass (mb_exn E) = some ce.cls → vx_W p l e R s m args below meth c H1 locs1 (cells + (σ'.2.1 - σ.2.1)) (slots + (σ'.2.2 - σ.2.2)) Q (F0 m pc LS (st.drop (n + 1))) q) → W p l e R s m args below meth c H locs cells slots Q (F0 m pc LS st) := by
              intro H locs LS cells slots hR hS hL hc hs gr1 gr2 kk kx
              obtain ⟨hlt, hba, r', h1', cell, q1, q2, q3, q4⟩ := hR.2.2.2 b _ hfs
              have hr' : r' = (C, T, N) := Option.some.inj (h1'.symm.trans hcl)
              subst hr'
              have hfc := ((hX.2.2.1.moved hW.alike).1 _ _ hcl).2.1
              refine mb_aftX (rest := st.drop (n + 1)) (a := (Value.ref b :: as).toArray) (vx_runV (cc := cc) (nL := nL) (Ts := []) (own := own) (C := C) (index := idx) (y := y0) (bytes := bytes) (maxL := maxL) (ret := ret') (n := n) (b := b) (As := as) ⟨hx, hb, hml, hown, fun _ h => nomatch h⟩ hM ⟨⟨rfl, rfl, ?_, ?_, ?_, List.mem_singleton.mpr rfl, mb_tr hW rfl (hX.1 _ u1), mb_tr hW rfl (hX.1 _ u2), u3, ?_, mb_tr hW rfl (hX.1 _ hw1)⟩, mb_tr hW rfl (hX.1 _ hw2), mb_tr hW rfl (hX.1 _ hw3)⟩ ⟨mb_blind, ⟨cell, q1, by rw [q3]; rfl, by rw [q2]; exact hfc⟩, fun U hU hWU => ⟨rfl, State.WarmedH.trans hW hWU, by rw [hU]; exact hR⟩⟩ rfl hasl hL.2.1 (by rw [← hst2]) (by show 2 * 0 + _ ≤ 8; omega) hd ⟨by omega, by omega⟩) hbase (by have := hS.1; rw [hR.1] at this; omega) hS kk kx
              · show d - 1 + 1 ≤ R.frames; omega
              · show 8 + (maxL + 11) + 37 * (d - 1) ≤ R.locals
                have : maxL ≤ 18 := u5
                omega
              · intro w hw9 a' U hWU
                rw [List.mem_singleton.mp hw9]
                exact mb_tr (State.WarmedH.trans hW hWU) (mb_gcw _) (hX.1 _ u1)
              · intro sig hsig
                have h9 : (parseMethodDescriptor y0.desc).map (fun d => d.parameters.length) = some n := u4
                rw [hsig] at h9
                exact (Option.some.inj h9).symm
            unfold mb_bx at h
            split at h
            · rename_i σ1 he
              cases he
              have g := hk _ _ _ _ h
              refine ⟨⟨by have := g.1.1; omega, by have := g.1.2; omega⟩, fun H locs LS cells slots hR hS hL hc hs => hgo H locs LS cells slots hR hS hL hc hs g.1.1 g.1.2 (fun v H1 locs1 hv hR1 hS1 => ?_) (fun E ce q H1 locs1 hE9 => by cases hE9)⟩
              cases hv
              exact g.2 H1 locs1 LS _ _ hR1 hS1 hL (by omega) (by omega)
            · rename_i v σ1 he
              cases he
              have g := hk _ _ _ _ h
              refine ⟨⟨by have := g.1.1; omega, by have := g.1.2; omega⟩, fun H locs LS cells slots hR hS hL hc hs => hgo H locs LS cells slots hR hS hL hc hs g.1.1 g.1.2 (fun v' H1 locs1 hv hR1 hS1 => ?_) (fun E ce q H1 locs1 hE9 => by cases hE9)⟩
              cases hv
              exact g.2 H1 locs1 LS _ _ hR1 hS1 hL (by omega) (by omega)
            · rename_i E σ1 he
              cases he
              split at h
              · rename_i t i hlk9
                split at h
                · rename_i hil
                  have g := hk _ _ _ _ h
                  obtain ⟨pre, x, suf, x1, x2, x3, x4, x5, x6, x7⟩ := hH E t i hlk9
                  refine ⟨⟨by have := g.1.1; omega, by have := g.1.2; omega⟩, fun H locs LS cells slots hR hS hL hc hs => hgo H locs LS cells slots hR hS hL hc hs g.1.1 g.1.2 (fun v' H1 locs1 hv hR1 hS1 => by cases hv) (fun E' ce q H1 locs1 hE9 hR1 hS1 g1 g2 g3 => ?_)⟩
                  cases hE9
                  refine vx_catch hown pre x suf (htab.trans x1) (fun z hz => Or.inr ⟨(x2 z hz).1, ?_⟩) x3 x4 (mb_tr hW rfl (hX.1 _ x5)) (mb_tr hW rfl (hX.1 _ x6)) g1 g2 g3 ?_
                  · obtain ⟨F, f1, f2⟩ := (x2 z hz).2
                    exact ⟨_, mb_tr hW rfl (hX.1 _ f2), va_Nc.moved hW.alike (hX.2.2.2.2.2.2.2 E F f1)⟩
                  · rcases x7 with ⟨k0, y1, y2, y3⟩ | ⟨y1, y3⟩
                    · subst y3
                      exact lv_astore_n (lv' := _) hx hb y1 y2 hL.has (by rw [← hL.1]; exact hil) rfl (fun LS' h' => g.2 H1 locs1 LS' _ _ hR1 hS1 (hL.unset hil rfl h') (by omega) (by omega))
                    · subst y3
                      exact lv_astore (lv' := _) hx hb y1 hL.has (by rw [← hL.1]; exact hil) rfl (fun LS' h' => g.2 H1 locs1 LS' _ _ hR1 hS1 (hL.unset hil rfl h') (by omega) (by omega))
                · cases h
              · cases h
            · rename_i he
              cases he
        · cases h
      · cases h
    · cases h
  · cases h
theorem ms_callvp {idx y n ci N : Nat} {C : String} {T : u_T} {y0 : MethodName} {bytes : ByteArray} {maxL : Nat} {ret' : Option FieldType} (hX : mb_Fx l D cT s0 args0) (hq : M[y]? = some (y0, bytes, maxL, ret', [])) (hcl : vwCl[ci]? = some (C, T, N)) (hw : mb_Cal own idx (y0, bytes, maxL, ret', []) n) (hw1 : Cond.methodLink own idx y0 ∈ lw_tbl) (hw2 : Cond.instanceMethod y0 ∈ lw_tbl) (hw3 : Cond.selects C y0 y0 ∈ lw_tbl) (hd : decode cc pc = .ok (.invokevirtual idx, 3)) (hh0 : hh = []) (hn : nx = pc + 3) : mb_Snd l D cT s0 M own nm cc nL ret hh pc (mi_callvp y (n + 1) ci nx) := by
  subst hn
  intro d p e R s m args below meth c Q nx0 ns0 r hC hE h1 h2 call k hcall hk ls st σ h
  obtain ⟨hx, hb, hr, hml, hown, hlk, hnm, hW, hz, hbase, htab, c1, c2⟩ := hC
  unfold mi_callvp at h
  split at h
  · rename_i b as hst
    split at h
    · rename_i hcnd
      obtain ⟨hc1, hlen, hrest⟩ := hcnd
      unfold mb_gf at h
      split at h
      · rename_i c' fs hfs
        split at h
        · rename_i hcc
          subst hcc
          dsimp only at h
          generalize hcr : call y (.ref b :: as) σ = res at h
          obtain _ | ⟨o, σ'⟩ := res
          · cases h
          · obtain ⟨gm1, gm2, hd1, hmet⟩ := hcall _ _ _ _ _ hcr
            have hM := hmet _ hq
            have hst2 : st = as.reverse ++ .ref b :: st.drop (n + 1) := by
              have e1 : st.take (n + 1) = as.reverse ++ [.ref b] := by rw [← List.reverse_reverse (st.take (n + 1)), hst]; simp
              calc st = st.take (n + 1) ++ st.drop (n + 1) := (List.take_append_drop _ _).symm
                _ = as.reverse ++ .ref b :: st.drop (n + 1) := by rw [e1]; simp
            have hasl : as.length = n := by
              have : (st.take (n + 1)).reverse.length = n + 1 := by rw [List.length_reverse]; exact hlen
              rw [hst] at this
              simpa using this
            obtain ⟨u1, u2, u3, u4, u5⟩ := hw
            have hrs : (((st.drop (n + 1)).map fun v => v.category).sum) ≤ 8 := by have := mb_cat (st.drop (n + 1)); omega
            have hgo : ∀ (H : Heap) (locs : List Loc) (LS : Array Slot) (cells slots : Nat), mb_Rep D cT s0 σ H → va_S (fun q => s0.heap.size ≤ q) s.heap H locs → mb_LS nL ls LS → σ.2.1 = nx0 + cells → σ.2.2 = ns0 + slots → σ'.2.1 ≤ r.2.2.1 → σ'.2.2 ≤ r.2.2.2 →
                (∀ (v : Option Value) (H1 : Heap) (locs1 : List Loc), o = .inl v → mb_Rep D cT s0 σ' H1 → va_S (fun q => s0.heap.size ≤ q) s.heap H1 locs1 → W p l e R s m args below meth c H1 locs1 (cells + (σ'.2.1 - σ.2.1)) (slots + (σ'.2.2 - σ.2.2)) Q (F0 m (pc + 3) LS (v.toList ++ st.drop (n + 1)))) →
                (∀ (E : Nat) (ce : Cell) (q : Addr) (H1 : Heap) (locs1 : List Loc), o = .inr E → mb_Rep D cT s0 σ' H1 → va_S (fun q => s0.heap.size ≤ q) s.heap H1 locs1 → H1[q]? = some ce → ce.vm = .none → s.vm.findClass (mb_exn E) = some ce.cls → vx_W p l e R s m args below meth c H1 locs1 (cells + (σ'.2.1 - σ.2.1)) (slots + (σ'.2.2 - σ.2.2)) Q (F0 m pc LS (st.drop (n + 1))) q) → W p l e R s m args below meth c H locs cells slots Q (F0 m pc LS st) := by
              intro H locs LS cells slots hR hS hL hc hs gr1 gr2 kk kx
              obtain ⟨hlt, hba, r', h1', cell, q1, q2, q3, q4⟩ := hR.2.2.2 b _ hfs
              have hr' : r' = (C, T, N) := Option.some.inj (h1'.symm.trans hcl)
              subst hr'
              have hfc := ((hX.2.2.1.moved hW.alike).1 _ _ hcl).2.1
              refine mb_aftX (rest := st.drop (n + 1)) (a := (Value.ref b :: as).toArray) (vx_runV (cc := cc) (nL := nL) (Ts := []) (own := own) (C := C) (index := idx) (y := y0) (bytes := bytes) (maxL := maxL) (ret := ret') (n := n) (b := b) (As := as) ⟨hx, hb, hml, hown, fun _ h => nomatch h⟩ hM ⟨⟨rfl, rfl, ?_, ?_, ?_, List.mem_singleton.mpr rfl, mb_tr hW rfl (hX.1 _ u1), mb_tr hW rfl (hX.1 _ u2), u3, ?_, mb_tr hW rfl (hX.1 _ hw1)⟩, mb_tr hW rfl (hX.1 _ hw2), mb_tr hW rfl (hX.1 _ hw3)⟩ ⟨mb_blind, ⟨cell, q1, by rw [q3]; rfl, by rw [q2]; exact hfc⟩, fun U hU hWU => ⟨rfl, State.WarmedH.trans hW hWU, by rw [hU]; exact hR⟩⟩ rfl hasl hL.2.1 (by rw [← hst2]) (by show 2 * 0 + _ ≤ 8; omega) hd ⟨by omega, by omega⟩) hbase (by have := hS.1; rw [hR.1] at this; omega) hS kk kx
              · show d - 1 + 1 ≤ R.frames; omega
              · show 8 + (maxL + 11) + 37 * (d - 1) ≤ R.locals
                have : maxL ≤ 18 := u5
                omega
              · intro w hw9 a' U hWU
                rw [List.mem_singleton.mp hw9]
                exact mb_tr (State.WarmedH.trans hW hWU) (mb_gcw _) (hX.1 _ u1)
              · intro sig hsig
                have h9 : (parseMethodDescriptor y0.desc).map (fun d => d.parameters.length) = some n := u4
                rw [hsig] at h9
                exact (Option.some.inj h9).symm
            unfold mb_bp at h
            split at h
            · rename_i σ1 he
              cases he
              have g := hk _ _ _ _ h
              refine ⟨⟨by have := g.1.1; omega, by have := g.1.2; omega⟩, fun H locs LS cells slots hR hS hL hc hs => hgo H locs LS cells slots hR hS hL hc hs g.1.1 g.1.2 (fun v H1 locs1 hv hR1 hS1 => ?_) (fun E ce q H1 locs1 hE9 => by cases hE9)⟩
              cases hv
              exact g.2 H1 locs1 LS _ _ hR1 hS1 hL (by omega) (by omega)
            · rename_i v σ1 he
              cases he
              have g := hk _ _ _ _ h
              refine ⟨⟨by have := g.1.1; omega, by have := g.1.2; omega⟩, fun H locs LS cells slots hR hS hL hc hs => hgo H locs LS cells slots hR hS hL hc hs g.1.1 g.1.2 (fun v' H1 locs1 hv hR1 hS1 => ?_) (fun E ce q H1 locs1 hE9 => by cases hE9)⟩
              cases hv
              exact g.2 H1 locs1 LS _ _ hR1 hS1 hL (by omega) (by omega)
            · rename_i E σ1 he
              cases he
              cases h
              refine ⟨⟨gm1, gm2⟩, fun H locs LS cells slots hR hS hL hc hs => hgo H locs LS cells slots hR hS hL hc hs (Nat.le_refl _) (Nat.le_refl _) (fun v' H1 locs1 hv hR1 hS1 => by cases hv) (fun E' ce q H1 locs1 hE9 hR1 hS1 g1 g2 g3 => ?_)⟩
              cases hE9
              exact (hE pc H1 locs1 ls LS _ _ σ' hR1 hS1 hL (by omega) (by omega)).2.2.2.2 E ce q _ rfl hh0 g1 g2 g3
            · rename_i he
              cases he
        · cases h
      · cases h
    · cases h
  · cases h
end MBV
