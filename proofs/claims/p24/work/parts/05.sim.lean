/-! THE REAL MACHINE FOLLOWS THE SMALL ONE, row by row. mb_Rep: the heap holds the small heap; mb_G: from here the walk comes to its end; mb_Snd: a row of the small machine is sound at a pc of a method. -/
def mb_cell (D : va_G) (cT : Nat → ClassId) (s0 : State) (a : Nat) (e : va_E) (H : Heap) : Prop := match e with
  | .inl (k, x) => (k = 9 ∧ ∃ f, x.2 = .inl f ∧ a < s0.heap.size ∧ va_X a x.1 f s0 s0.heap) ∨ (k ≠ 9 ∧ s0.heap.size ≤ a ∧ H[a]? = some (vp_cell (cT k) x))
  | .inr o => s0.heap.size ≤ a ∧ va_at D vwCl (a, .inr o) H
def mb_Rep (D : va_G) (cT : Nat → ClassId) (s0 : State) (σ : mb_S) (H : Heap) : Prop := H.size = σ.2.1 ∧ s0.heap.size ≤ σ.2.1 ∧ (∀ q : Nat, q < s0.heap.size → H[q]? = s0.heap[q]?) ∧ ∀ (a : Nat) (e : va_E), σ.1 a = some e → a < σ.2.1 ∧ mb_cell D cT s0 a e H
theorem mb_cell.kept {D : va_G} {cT : Nat → ClassId} {s0 : State} {a : Nat} {e : va_E} {H H1 : Heap} (h : mb_cell D cT s0 a e H) (hq : H1[a]? = H[a]?) : mb_cell D cT s0 a e H1 := by
  cases e with
  | inl x =>
    rcases h with h | ⟨h1, h2, h3⟩
    · exact Or.inl h
    · exact Or.inr ⟨h1, h2, hq.trans h3⟩
  | inr o => exact ⟨h.1, h.2.kept hq⟩
theorem mb_Rep.up {D : va_G} {cT : Nat → ClassId} {s0 : State} {σ : mb_S} {H H1 : Heap} {a : Nat} {e0 e1 : va_E} (h : mb_Rep D cT s0 σ H) (h0 : σ.1 a = some e0) (ha : s0.heap.size ≤ a) (hz : H1.size = H.size) (ho : ∀ q : Nat, q ≠ a → H1[q]? = H[q]?) (hc : mb_cell D cT s0 a e1 H1) : mb_Rep D cT s0 (mb_up σ a e1) H1 := by
  refine ⟨hz.trans h.1, h.2.1, fun q hq => (ho q (by omega)).trans (h.2.2.1 q hq), fun b e hb => ?_⟩
  by_cases hab : b = a
  · subst hab
    simp only [mb_up, if_true] at hb
    cases hb
    exact ⟨(h.2.2.2 b e0 h0).1, hc⟩
  · simp only [mb_up, if_neg hab] at hb
    exact ⟨(h.2.2.2 b e hb).1, (h.2.2.2 b e hb).2.kept (ho b hab)⟩
theorem mb_Rep.al {D : va_G} {cT : Nat → ClassId} {s0 : State} {σ : mb_S} {H H1 : Heap} {e1 : va_E} (n : Nat) (h : mb_Rep D cT s0 σ H) (hz : H1.size = H.size + 1) (ho : ∀ q : Nat, q < H.size → H1[q]? = H[q]?) (hc : mb_cell D cT s0 H.size e1 H1) : mb_Rep D cT s0 (mb_al σ e1 n) H1 := by
  obtain ⟨h1, h2, h3, h4⟩ := h
  refine ⟨by rw [hz, h1]; rfl, Nat.le_succ_of_le h2, fun q hq => (ho q (by omega)).trans (h3 q hq), fun b e hb => ?_⟩
  by_cases hab : b = σ.2.1
  · subst hab
    simp only [mb_al, if_true] at hb
    cases hb
    rw [h1] at hc
    exact ⟨Nat.lt_succ_self _, hc⟩
  · simp only [mb_al, if_neg hab] at hb
    have h5 := h4 b e hb
    exact ⟨Nat.lt_succ_of_lt h5.1, h5.2.kept (ho b (by rw [h1]; exact h5.1))⟩
-- locals
def mb_LS (nL : Nat) (ls : mb_L) (LS : Array Slot) : Prop := ls.length = nL ∧ LS.size = nL ∧ lv_wf LS ∧ ∀ (i : Nat) (v : Value), ls[i]? = some (some v) → LS[i]? = some (.val v) ∧ v.category = 1
def mb_prs (ls : mb_L) : List (Nat × Value) := (List.range ls.length).filterMap (fun i => (ls[i]?.join).map (fun v => (i, v)))
theorem mb_prs_mem {ls : mb_L} {i : Nat} {v : Value} : (i, v) ∈ mb_prs ls ↔ ls[i]? = some (some v) := by
  unfold mb_prs
  rw [List.mem_filterMap]
  constructor
  · rintro ⟨j, -, h⟩
    cases hj : ls[j]? with
    | none => rw [hj] at h; simp at h
    | some o =>
      cases o with
      | none => rw [hj] at h; simp at h
      | some w =>
        rw [hj] at h
        simp at h
        obtain ⟨rfl, rfl⟩ := h
        exact hj
  · intro h
    have hl : i < ls.length := (List.getElem?_eq_some_iff.mp h).1
    exact ⟨i, List.mem_range.mpr hl, by rw [h]; rfl⟩
theorem mb_LS.has {nL : Nat} {ls : mb_L} {LS : Array Slot} (h : mb_LS nL ls LS) : lv_has LS nL (mb_prs ls) := ⟨h.2.1, h.2.2.1, fun q hq => (h.2.2.2 q.1 q.2 (mb_prs_mem.mp hq)).1⟩
theorem mb_LS.set {nL i : Nat} {ls : mb_L} {LS LS' : Array Slot} {v : Value} (h : mb_LS nL ls LS) (hi : i < ls.length) (hc : v.category = 1) (h' : lv_has LS' nL ((i, v) :: (mb_prs ls).filter (fun q => !(q.1 == i) && !(q.1 + 1 == i && q.2.category == 2)))) : mb_LS nL (ls.set i (some v)) LS' := by
  refine ⟨by rw [List.length_set]; exact h.1, h'.1, h'.2.1, fun j w hj => ?_⟩
  by_cases hji : j = i
  · subst hji
    rw [List.getElem?_set_self hi] at hj
    cases hj
    exact ⟨h'.2.2 (j, v) List.mem_cons_self, hc⟩
  · rw [List.getElem?_set_ne (fun q => hji q.symm)] at hj
    have hw := (h.2.2.2 j w hj).2
    refine ⟨h'.2.2 (j, w) (List.mem_cons_of_mem _ (List.mem_filter.mpr ⟨mb_prs_mem.mpr hj, ?_⟩)), hw⟩
    simp [hji, hw]
theorem mb_LS.unset {nL i : Nat} {ls : mb_L} {LS LS' : Array Slot} {v : Value} (h : mb_LS nL ls LS) (hi : i < ls.length) (hc : v.category = 1) (h' : lv_has LS' nL ((i, v) :: (mb_prs ls).filter (fun q => !(q.1 == i) && !(q.1 + 1 == i && q.2.category == 2)))) : mb_LS nL (ls.set i none) LS' := by
  have h1 := h.set hi hc h'
  refine ⟨by rw [List.length_set]; exact h.1, h'.1, h'.2.1, fun j w hj => ?_⟩
  by_cases hji : j = i
  · subst hji
    rw [List.getElem?_set_self hi] at hj
    cases hj
  · rw [List.getElem?_set_ne (fun q => hji q.symm)] at hj
    exact h1.2.2.2 j w (by rw [List.getElem?_set_ne (fun q => hji q.symm)]; exact hj)
-- words of the tables, at any state that grew out of s0
def mb_gw : Cond → Bool
  | .castable .. => true
  | .fieldLinkNest .. => true
  | .methodLinkNest .. => true
  | .declares _ => true
  | w => goodWord w
theorem mb_tr {s0 s : State} {args0 args : Array Value} {w : Cond} (hW : s0.WarmedH s.vm) (hg : mb_gw w = true) (h : w.before args0 s0 = true) : w.before args s = true := by
  unfold mb_gw at hg
  split at hg
  · exact va_Nw.use rfl (va_Nw.warmC hW (va_Nw.of rfl h))
  · exact va_Nw.use rfl (va_Nw.warmF hW (va_Nw.of rfl h))
  · exact va_Nw.use rfl (va_Nw.warmM hW (va_Nw.of rfl h))
  · exact va_Nw.use rfl (va_Nw.warmD hW (va_Nw.of rfl h))
  · exact word_at hW (good_of_word hg) h
def mb_ty : Nat → Option FieldType
  | 0 => some .int
  | 1 => none
  | 2 => none
  | 10 => some (.object RX0)
  | 11 => some (.object RX1)
  | 12 => some (.object RX2)
  | 13 => some (.object RX3)
  | 14 => some (.object RX4)
  | 15 => some (.object RX5)
  | 16 => some (.object RX6)
  | 17 => some (.object RX0)
  | 18 => some (.object RX0)
  | _ => none
def mb_exn : Nat → String
  | 0 => "java/lang/IllegalStateException"
  | 1 => "java/lang/IllegalArgumentException"
  | _ => "java/lang/IndexOutOfBoundsException"
/-- what is fixed for the whole run: the law's start -/
def mb_Fx (l : Launch) (D : va_G) (cT : Nat → ClassId) (s0 : State) (args0 : Array Value) : Prop :=
  (∀ w ∈ lw_tbl, w.before args0 s0 = true) ∧ l.stackTraces = false ∧ va_K D vwCl [] s0 ∧ (∀ (k : Nat) (ty : FieldType), mb_ty k = some ty → ArrOfT s0 (cT k) ty ∧ va_RA s0 (cT k) ty) ∧
  vx_Zq Bundle.tN "UNASSIGNED_STACK" Bundle.steD (fun q => s0.heap.size ≤ q) s0 s0.heap ∧ vx_Zq Bundle.tN "SUPPRESSED_SENTINEL" Bundle.listD (fun q => s0.heap.size ≤ q) s0 s0.heap ∧
  (∀ (own : String) (k : Nat) (tx : String), Cond.stringRef own k tx ∈ lw_tbl → ∃ a : Nat, vk_R own k tx a s0) ∧ ∀ E F : Nat, mb_exn E ≠ mb_exn F → va_Nc (mb_exn E) (mb_exn F) s0
/-- what holds of the frame that stands -/
def mb_Cx (s0 : State) (own nm : String) (cc : ByteArray) (nL : Nat) (ret : Option FieldType) (hh : List (Nat × Nat × Nat × Nat)) (d : Nat) (p : Program) (R : Room) (s : State) (m : MethodId) (meth : Method) (c : Code) : Prop :=
  p.tables.exec = Jvm.exec ∧ c.code = cc ∧ meth.sig.returnType = ret ∧ c.maxLocals = nL ∧ s.vm.findClass own = some m.cls ∧ meth.locks = false ∧ meth.name = nm ∧ s0.WarmedH s.vm ∧ s0.heap.size ≤ s.heap.size ∧ (∀ q : Nat, q < s0.heap.size → s.heap[q]? = s0.heap[q]?) ∧ c.exceptionTable.toList = tableOf hh ∧ d ≤ R.frames ∧ 37 * d ≤ R.locals
/-- from here the walk comes to its end Q, and what is made fits -/
def mb_G (D : va_G) (cT : Nat → ClassId) (s0 : State) (nL : Nat) (p : Program) (l : Launch) (e : Env) (R : Room) (s : State) (m : MethodId) (args : Array Value) (below : List Frame) (meth : Method) (c : Code) (Q : State → Prop) (nx0 ns0 : Nat) (r : mb_O × mb_S) (pc : Nat) (ls : mb_L) (st : List Value) (σ : mb_S) : Prop :=
  (σ.2.1 ≤ r.2.2.1 ∧ σ.2.2 ≤ r.2.2.2) ∧ ∀ (H : Heap) (locs : List Loc) (LS : Array Slot) (cells slots : Nat), mb_Rep D cT s0 σ H → va_S (fun q => s0.heap.size ≤ q) s.heap H locs → mb_LS nL ls LS → σ.2.1 = nx0 + cells → σ.2.2 = ns0 + slots → W p l e R s m args below meth c H locs cells slots Q (F0 m pc LS st)
def mb_sup : List String := ["java/lang/RuntimeException", "java/lang/Exception"]
/-- 'throw new E(text)' stands at pc -/
def mb_Thr (own : String) (cc : ByteArray) (hh : List (Nat × Nat × Nat × Nat)) (pc E : Nat) : Prop := (∀ x ∈ tableOf hh, covers x (pc + 9) = false) ∧ ∃ (ik is ic : Nat) (tx : String), decode cc pc = .ok (.new ik, 3) ∧ decode cc (pc + 3) = .ok (.dup, 1) ∧ decode cc (pc + 4) = .ok (.ldc is, 2) ∧ decode cc (pc + 6) = .ok (.invokespecial ic, 3) ∧ decode cc (pc + 9) = .ok (.athrow, 1) ∧
  (Cond.classLink own ik (mb_exn E) ∈ lw_tbl ∧ mb_gw (Cond.classLink own ik (mb_exn E)) = true) ∧ Cond.initialized (mb_exn E) ∈ lw_tbl ∧ Cond.stringRef own is tx ∈ lw_tbl ∧ (∀ w ∈ vx_atS own ic (mb_exn E) mb_sup, w ∈ lw_tbl) ∧ (vx_atS own ic (mb_exn E) mb_sup).all (fun w => mb_gw w && vx_ot w) = true
/-- what the end of the method owes: its returns, its throws -/
def mb_Ends (D : va_G) (cT : Nat → ClassId) (s0 : State) (own : String) (cc : ByteArray) (nL : Nat) (ret : Option FieldType) (hh : List (Nat × Nat × Nat × Nat)) (p : Program) (l : Launch) (e : Env) (R : Room) (s : State) (m : MethodId) (args : Array Value) (below : List Frame) (meth : Method) (c : Code) (Q : State → Prop) (nx0 ns0 : Nat) (r : mb_O × mb_S) : Prop :=
  ∀ (pc : Nat) (H : Heap) (locs : List Loc) (ls : mb_L) (LS : Array Slot) (cells slots : Nat) (σ : mb_S), mb_Rep D cT s0 σ H → va_S (fun q => s0.heap.size ≤ q) s.heap H locs → mb_LS nL ls LS → σ.2.1 = nx0 + cells → σ.2.2 = ns0 + slots →
    (∀ (v : Int32) (ty : FieldType), r = (.inl (some (.int v)), σ) → ret = some ty → narrow ty (.int v) = .int v → decode cc pc = .ok (.ireturn, 1) → W p l e R s m args below meth c H locs cells slots Q (F0 m pc LS [.int v])) ∧
    (∀ (v : Value) (ty : FieldType), r = (.inl (some v), σ) → ret = some ty → ((∃ n, ty = .object n) ∨ ∃ t, ty = .array t) → (v = .null ∨ ∃ a, v = .ref a) → decode cc pc = .ok (.areturn, 1) → W p l e R s m args below meth c H locs cells slots Q (F0 m pc LS [v])) ∧
    (r = (.inl none, σ) → ret = none → decode cc pc = .ok (.return_, 1) → W p l e R s m args below meth c H locs cells slots Q (F0 m pc LS [])) ∧
    (∀ E : Nat, r = (.inr E, mb_th σ) → mb_Thr own cc hh pc E → 6 ≤ R.frames → 222 ≤ R.locals → W p l e R s m args below meth c H locs cells slots Q (F0 m pc LS [])) ∧
    (∀ (E : Nat) (ce : Cell) (q : Addr) (rest : List Value), r = (.inr E, σ) → hh = [] → H[q]? = some ce → ce.vm = .none → s.vm.findClass (mb_exn E) = some ce.cls → vx_W p l e R s m args below meth c H locs cells slots Q (F0 m pc LS rest) q)
/-- the methods: name, code, locals, answer, handlers -/
abbrev mb_M : Type := List (MethodName × ByteArray × Nat × Option FieldType × List (Nat × Nat × Nat × Nat))
def mb_cw (q : MethodName × ByteArray × Nat × Option FieldType × List (Nat × Nat × Nat × Nat)) : Cond := match q.2.2.2.2 with
  | [] => Cond.code q.1 q.2.1 q.2.2.1 q.2.2.2.1
  | h :: hs => Cond.codeWith q.1 q.2.1 q.2.2.1 q.2.2.2.1 (h :: hs)
def mb_Pc (D : va_G) (cT : Nat → ClassId) (s0 : State) (as : List Value) (σ : mb_S) : Array Value → State → Prop := fun a U => a = as.toArray ∧ s0.WarmedH U.vm ∧ mb_Rep D cT s0 σ U.heap
def mb_Qc (D : va_G) (cT : Nat → ClassId) (s0 : State) (o : mb_O) (σ' : mb_S) : Array Value → State → Outcome → State → Prop := fun _ _ oc t => ∃ v : Option Value, o = .inl v ∧ oc = .returned v ∧ mb_Rep D cT s0 σ' t.heap
def mb_XC (D : va_G) (cT : Nat → ClassId) (s0 : State) (o : mb_O) (σ' : mb_S) : String → State → State → Prop := fun E _ t => ∃ k : Nat, o = .inr k ∧ E = mb_exn k ∧ mb_Rep D cT s0 σ' t.heap
def mb_Met (l : Launch) (D : va_G) (cT : Nat → ClassId) (s0 : State) (M : mb_M) (d y : Nat) (as : List Value) (σ : mb_S) (o : mb_O) (σ' : mb_S) : Prop :=
  ∀ q : MethodName × ByteArray × Nat × Option FieldType × List (Nat × Nat × Nat × Nat), M[y]? = some q → vx_Met l q.1 [mb_cw q] { frames := d, cells := σ'.2.1 - σ.2.1, slots := σ'.2.2 - σ.2.2, locals := 37 * d } (mb_Pc D cT s0 as σ) (mb_Qc D cT s0 o σ') (mb_XC D cT s0 o σ') (σ'.2.1 - σ.2.1) (σ'.2.2 - σ.2.2) (fun q => s0.heap.size ≤ q)
def mb_Snd (l : Launch) (D : va_G) (cT : Nat → ClassId) (s0 : State) (M : mb_M) (own nm : String) (cc : ByteArray) (nL : Nat) (ret : Option FieldType) (hh : List (Nat × Nat × Nat × Nat)) (pc : Nat) (i : mb_I) : Prop :=
  ∀ (d : Nat) (p : Program) (e : Env) (R : Room) (s : State) (m : MethodId) (args : Array Value) (below : List Frame) (meth : Method) (c : Code) (Q : State → Prop) (nx0 ns0 : Nat) (r : mb_O × mb_S), mb_Cx s0 own nm cc nL ret hh d p R s m meth c → mb_Ends D cT s0 own cc nL ret hh p l e R s m args below meth c Q nx0 ns0 r →
    r.2.2.1 ≤ nx0 + R.cells → r.2.2.2 ≤ ns0 + R.slots → ∀ (call : mb_C) (k : mb_K),
    (∀ (y : Nat) (as : List Value) (σ : mb_S) (o : mb_O) (σ' : mb_S), call y as σ = some (o, σ') → σ.2.1 ≤ σ'.2.1 ∧ σ.2.2 ≤ σ'.2.2 ∧ 1 ≤ d ∧ mb_Met l D cT s0 M (d - 1) y as σ o σ') →
    (∀ (pc' : Nat) (ls' : mb_L) (st' : List Value) (σ' : mb_S), k pc' ls' st' σ' = some r → mb_G D cT s0 nL p l e R s m args below meth c Q nx0 ns0 r pc' ls' st' σ') →
    ∀ (ls : mb_L) (st : List Value) (σ : mb_S), i d call k ls st σ = some r → mb_G D cT s0 nL p l e R s m args below meth c Q nx0 ns0 r pc ls st σ
section MBR
variable {l : Launch} {D : va_G} {cT : Nat → ClassId} {s0 : State} {args0 : Array Value} {M : mb_M} {own nm : String} {cc : ByteArray} {nL : Nat} {ret : Option FieldType} {hh : List (Nat × Nat × Nat × Nat)} {pc nx : Nat}
theorem ms_iconst {n : Int} {v : Int32} (hd : decode cc pc = .ok (.iconst n, 1)) (hv : Int32.ofInt n = v) (hn : nx = pc + 1) : mb_Snd l D cT s0 M own nm cc nL ret hh pc (mi_push (.int v) nx) := by
  subst hn
  intro d p e R s m args below meth c Q nx0 ns0 r hC hE h1 h2 call k hcall hk ls st σ h
  have g := hk _ _ _ _ h
  exact ⟨g.1, fun H locs LS cells slots hR hS hL hc hs => lv_iconst hC.1 hC.2.1 hd hv (g.2 H locs LS cells slots hR hS hL hc hs)⟩
theorem ms_bipush {n : Int} {v : Int32} (hd : decode cc pc = .ok (.bipush n, 2)) (hv : (Int8.ofInt n).toInt32 = v) (hn : nx = pc + 2) : mb_Snd l D cT s0 M own nm cc nL ret hh pc (mi_push (.int v) nx) := by
  subst hn
  intro d p e R s m args below meth c Q nx0 ns0 r hC hE h1 h2 call k hcall hk ls st σ h
  have g := hk _ _ _ _ h
  exact ⟨g.1, fun H locs LS cells slots hR hS hL hc hs => lv_bipush hC.1 hC.2.1 hd hv (g.2 H locs LS cells slots hR hS hL hc hs)⟩
theorem ms_sipush {n : Int} {v : Int32} (hd : decode cc pc = .ok (.sipush n, 3)) (hv : (Int16.ofInt n).toInt32 = v) (hn : nx = pc + 3) : mb_Snd l D cT s0 M own nm cc nL ret hh pc (mi_push (.int v) nx) := by
  subst hn
  intro d p e R s m args below meth c Q nx0 ns0 r hC hE h1 h2 call k hcall hk ls st σ h
  have g := hk _ _ _ _ h
  exact ⟨g.1, fun H locs LS cells slots hR hS hL hc hs => lv_sipush hC.1 hC.2.1 hd hv (g.2 H locs LS cells slots hR hS hL hc hs)⟩
theorem ms_lconst {n : Fin 2} {v : Int64} (hd : decode cc pc = .ok (.lconst n, 1)) (hv : Int64.ofNat (n : Nat) = v) (hn : nx = pc + 1) : mb_Snd l D cT s0 M own nm cc nL ret hh pc (mi_push (.long v) nx) := by
  subst hn
  intro d p e R s m args below meth c Q nx0 ns0 r hC hE h1 h2 call k hcall hk ls st σ h
  have g := hk _ _ _ _ h
  exact ⟨g.1, fun H locs LS cells slots hR hS hL hc hs => lv_lconst hC.1 hC.2.1 hd hv (g.2 H locs LS cells slots hR hS hL hc hs)⟩
theorem ms_ldc {args0 : Array Value} {idx : Nat} {v : Int32} (hX : mb_Fx l D cT s0 args0) (hw : Cond.constant own idx v ∈ lw_tbl) (hd : decode cc pc = .ok (.ldc idx, 2)) (hn : nx = pc + 2) : mb_Snd l D cT s0 M own nm cc nL ret hh pc (mi_push (.int v) nx) := by
  subst hn
  intro d p e R s m args below meth c Q nx0 ns0 r hC hE h1 h2 call k hcall hk ls st σ h
  have g := hk _ _ _ _ h
  obtain ⟨hx, hb, hr, hml, hown, hlk, hnm, hW, hz, hbase, htab, c1, c2⟩ := hC
  exact ⟨g.1, fun H locs LS cells slots hR hS hL hc hs => lv_ldc hx hb hown (mb_tr hW rfl (hX.1 _ hw)) hd (g.2 H locs LS cells slots hR hS hL hc hs)⟩
theorem ms_null (hd : decode cc pc = .ok (.aconst_null, 1)) (hn : nx = pc + 1) : mb_Snd l D cT s0 M own nm cc nL ret hh pc (mi_push .null nx) := by
  subst hn
  intro d p e R s m args below meth c Q nx0 ns0 r hC hE h1 h2 call k hcall hk ls st σ h
  have g := hk _ _ _ _ h
  exact ⟨g.1, fun H locs LS cells slots hR hS hL hc hs => lv_null hC.1 hC.2.1 hd (g.2 H locs LS cells slots hR hS hL hc hs)⟩
theorem ms_iload_n {k0 : Fin 4} {i : Nat} (hd : decode cc pc = .ok (.iload_n k0, 1)) (hi : (k0 : Nat) = i) (hn : nx = pc + 1) : mb_Snd l D cT s0 M own nm cc nL ret hh pc (mi_ild i nx) := by
  subst hn
  intro d p e R s m args below meth c Q nx0 ns0 r hC hE h1 h2 call k hcall hk ls st σ h
  unfold mi_ild at h
  split at h
  · rename_i x hx
    have g := hk _ _ _ _ h
    exact ⟨g.1, fun H locs LS cells slots hR hS hL hc hs => lv_iload_n hC.1 hC.2.1 hd hi (hL.2.2.2 i _ hx).1 (g.2 H locs LS cells slots hR hS hL hc hs)⟩
  · cases h
theorem ms_iload {i : Nat} (hd : decode cc pc = .ok (.iload i, 2)) (hn : nx = pc + 2) : mb_Snd l D cT s0 M own nm cc nL ret hh pc (mi_ild i nx) := by
  subst hn
  intro d p e R s m args below meth c Q nx0 ns0 r hC hE h1 h2 call k hcall hk ls st σ h
  unfold mi_ild at h
  split at h
  · rename_i x hx
    have g := hk _ _ _ _ h
    exact ⟨g.1, fun H locs LS cells slots hR hS hL hc hs => lv_iload hC.1 hC.2.1 hd (hL.2.2.2 i _ hx).1 (g.2 H locs LS cells slots hR hS hL hc hs)⟩
  · cases h
theorem ms_aload_n {k0 : Fin 4} {i : Nat} (hd : decode cc pc = .ok (.aload_n k0, 1)) (hi : (k0 : Nat) = i) (hn : nx = pc + 1) : mb_Snd l D cT s0 M own nm cc nL ret hh pc (mi_ald i nx) := by
  subst hn
  intro d p e R s m args below meth c Q nx0 ns0 r hC hE h1 h2 call k hcall hk ls st σ h
  unfold mi_ald at h
  split at h
  · rename_i x hx
    have g := hk _ _ _ _ h
    exact ⟨g.1, fun H locs LS cells slots hR hS hL hc hs => lv_aload_n hC.1 hC.2.1 hd hi (hL.2.2.2 i _ hx).1 (g.2 H locs LS cells slots hR hS hL hc hs)⟩
  · rename_i hx
    have g := hk _ _ _ _ h
    exact ⟨g.1, fun H locs LS cells slots hR hS hL hc hs => lv_aload_nN hC.1 hC.2.1 hd hi (hL.2.2.2 i _ hx).1 (g.2 H locs LS cells slots hR hS hL hc hs)⟩
  · cases h
theorem ms_aload {i : Nat} (hd : decode cc pc = .ok (.aload i, 2)) (hn : nx = pc + 2) : mb_Snd l D cT s0 M own nm cc nL ret hh pc (mi_ald i nx) := by
  subst hn
  intro d p e R s m args below meth c Q nx0 ns0 r hC hE h1 h2 call k hcall hk ls st σ h
  unfold mi_ald at h
  split at h
  · rename_i x hx
    have g := hk _ _ _ _ h
    exact ⟨g.1, fun H locs LS cells slots hR hS hL hc hs => lv_aload hC.1 hC.2.1 hd (hL.2.2.2 i _ hx).1 (g.2 H locs LS cells slots hR hS hL hc hs)⟩
  · rename_i hx
    have g := hk _ _ _ _ h
    exact ⟨g.1, fun H locs LS cells slots hR hS hL hc hs => lv_aloadN hC.1 hC.2.1 hd (hL.2.2.2 i _ hx).1 (g.2 H locs LS cells slots hR hS hL hc hs)⟩
  · cases h
theorem ms_istore_n {k0 : Fin 4} {i : Nat} (hd : decode cc pc = .ok (.istore_n k0, 1)) (hi : (k0 : Nat) = i) (hn : nx = pc + 1) : mb_Snd l D cT s0 M own nm cc nL ret hh pc (mi_ist i nx) := by
  subst hn
  intro d p e R s m args below meth c Q nx0 ns0 r hC hE h1 h2 call k hcall hk ls st σ h
  unfold mi_ist at h
  split at h
  · split at h
    · rename_i x st' hlt
      have g := hk _ _ _ _ h
      exact ⟨g.1, fun H locs LS cells slots hR hS hL hc hs => lv_istore_n (lv' := _) hC.1 hC.2.1 hd hi hL.has (by rw [← hL.1]; exact hlt) rfl (fun LS' h' => g.2 H locs LS' cells slots hR hS (hL.set hlt rfl h') hc hs)⟩
    · cases h
  · cases h
theorem ms_istore {i : Nat} (hd : decode cc pc = .ok (.istore i, 2)) (hn : nx = pc + 2) : mb_Snd l D cT s0 M own nm cc nL ret hh pc (mi_ist i nx) := by
  subst hn
  intro d p e R s m args below meth c Q nx0 ns0 r hC hE h1 h2 call k hcall hk ls st σ h
  unfold mi_ist at h
  split at h
  · split at h
    · rename_i x st' hlt
      have g := hk _ _ _ _ h
      exact ⟨g.1, fun H locs LS cells slots hR hS hL hc hs => lv_istore (lv' := _) hC.1 hC.2.1 hd hL.has (by rw [← hL.1]; exact hlt) rfl (fun LS' h' => g.2 H locs LS' cells slots hR hS (hL.set hlt rfl h') hc hs)⟩
    · cases h
  · cases h
theorem ms_astore_n {k0 : Fin 4} {i : Nat} (hd : decode cc pc = .ok (.astore_n k0, 1)) (hi : (k0 : Nat) = i) (hn : nx = pc + 1) : mb_Snd l D cT s0 M own nm cc nL ret hh pc (mi_ast i nx) := by
  subst hn
  intro d p e R s m args below meth c Q nx0 ns0 r hC hE h1 h2 call k hcall hk ls st σ h
  unfold mi_ast at h
  split at h
  · split at h
    · rename_i x st' hlt
      have g := hk _ _ _ _ h
      exact ⟨g.1, fun H locs LS cells slots hR hS hL hc hs => lv_astore_n (lv' := _) hC.1 hC.2.1 hd hi hL.has (by rw [← hL.1]; exact hlt) rfl (fun LS' h' => g.2 H locs LS' cells slots hR hS (hL.set hlt rfl h') hc hs)⟩
    · cases h
  · split at h
    · rename_i st' hlt
      have g := hk _ _ _ _ h
      exact ⟨g.1, fun H locs LS cells slots hR hS hL hc hs => lv_astore_nN (lv' := _) hC.1 hC.2.1 hd hi hL.has (by rw [← hL.1]; exact hlt) rfl (fun LS' h' => g.2 H locs LS' cells slots hR hS (hL.set hlt rfl h') hc hs)⟩
    · cases h
  · cases h
theorem ms_astore {i : Nat} (hd : decode cc pc = .ok (.astore i, 2)) (hn : nx = pc + 2) : mb_Snd l D cT s0 M own nm cc nL ret hh pc (mi_ast i nx) := by
  subst hn
  intro d p e R s m args below meth c Q nx0 ns0 r hC hE h1 h2 call k hcall hk ls st σ h
  unfold mi_ast at h
  split at h
  · split at h
    · rename_i x st' hlt
      have g := hk _ _ _ _ h
      exact ⟨g.1, fun H locs LS cells slots hR hS hL hc hs => lv_astore (lv' := _) hC.1 hC.2.1 hd hL.has (by rw [← hL.1]; exact hlt) rfl (fun LS' h' => g.2 H locs LS' cells slots hR hS (hL.set hlt rfl h') hc hs)⟩
    · cases h
  · split at h
    · rename_i st' hlt
      have g := hk _ _ _ _ h
      exact ⟨g.1, fun H locs LS cells slots hR hS hL hc hs => lv_astoreN (lv' := _) hC.1 hC.2.1 hd hL.has (by rw [← hL.1]; exact hlt) rfl (fun LS' h' => g.2 H locs LS' cells slots hR hS (hL.set hlt rfl h') hc hs)⟩
    · cases h
  · cases h
theorem ms_iinc {i : Nat} {n : Int} {n' : Int32} (hd : decode cc pc = .ok (.iinc i n, 3)) (hv : Int32.ofInt n = n') (hn : nx = pc + 3) : mb_Snd l D cT s0 M own nm cc nL ret hh pc (mi_iinc i n' nx) := by
  subst hn; subst hv
  intro d p e R s m args below meth c Q nx0 ns0 r hC hE h1 h2 call k hcall hk ls st σ h
  unfold mi_iinc at h
  split at h
  · rename_i x hx
    have hlt : i < ls.length := (List.getElem?_eq_some_iff.mp hx).1
    have g := hk _ _ _ _ h
    obtain ⟨j, hj⟩ := List.getElem?_of_mem (mb_prs_mem.mpr hx)
    exact ⟨g.1, fun H locs LS cells slots hR hS hL hc hs => lv_iinc (lv' := _) hC.1 hC.2.1 hd hL.has hj rfl (by rw [← hL.1]; exact hlt) rfl (fun LS' h' => g.2 H locs LS' cells slots hR hS (hL.set hlt rfl h') hc hs)⟩
  · cases h
end MBR
