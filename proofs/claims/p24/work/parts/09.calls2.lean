/-! constructors and static calls -/
section MBW
variable {l : Launch} {D : va_G} {cT : Nat → ClassId} {s0 : State} {args0 : Array Value} {M : mb_M} {own nm : String} {cc : ByteArray} {nL : Nat} {ret : Option FieldType} {hh : List (Nat × Nat × Nat × Nat)} {pc nx : Nat}
theorem ms_calli {idx y n : Nat} {y0 : MethodName} {bytes : ByteArray} {maxL : Nat} (hX : mb_Fx l D cT s0 args0) (hq : M[y]? = some (y0, bytes, maxL, none, [])) (hw : mb_Cal own idx (y0, bytes, maxL, none, []) n) (hy1 : y0.name = "<init>") (hw1 : Cond.methodLink own idx y0 ∈ lw_tbl) (hw2 : Cond.instanceMethod y0 ∈ lw_tbl) (hd : decode cc pc = .ok (.invokespecial idx, 3)) (hn : nx = pc + 3) : mb_Snd l D cT s0 M own nm cc nL ret hh pc (mi_calli y (n + 1) nx) := by
  subst hn
  intro d p e R s m args below meth c Q nx0 ns0 r hC hE h1 h2 call k hcall hk ls st σ h
  obtain ⟨hx, hb, hr, hml, hown, hlk, hnm, hW, hz, hbase, htab, c1, c2⟩ := hC
  unfold mi_calli at h
  split at h
  · rename_i b as hst
    split at h
    · rename_i hcnd
      obtain ⟨hc1, hlen, hrest⟩ := hcnd
      generalize hcr : call y (.ref b :: as) σ = res at h
      obtain _ | ⟨o, σ'⟩ := res
      · cases h
      · obtain ⟨gm1, gm2, hd1, hmet⟩ := hcall _ _ _ _ _ hcr
        have hM := hmet _ hq
        have hst2 : st = as.reverse ++ .ref b :: st.drop (n + 1) := by
          have e1 : st.take (n + 1) = as.reverse ++ [.ref b] := by rw [← List.reverse_reverse (st.take (n + 1)), hst]; simp
          calc st = st.take (n + 1) ++ st.drop (n + 1) := (List.take_append_drop _ _).symm
            _ = as.reverse ++ .ref b :: st.drop (n + 1) := by rw [e1]; simp
        have hasl : as.length = n := by
          have : (st.take (n + 1)).reverse.length = n + 1 := by rw [List.length_reverse]; exact hlen
          rw [hst] at this
          simpa using this
        obtain ⟨u1, u2, u3, u4, u5⟩ := hw
        have hrs : (((st.drop (n + 1)).map fun v => v.category).sum) ≤ 8 := by have := mb_cat (st.drop (n + 1)); omega
        have hgo : ∀ (v : Option Value) (H : Heap) (locs : List Loc) (LS : Array Slot) (cells slots : Nat), o = .inl v → mb_Rep D cT s0 σ H → va_S (fun q => s0.heap.size ≤ q) s.heap H locs → mb_LS nL ls LS → σ.2.1 = nx0 + cells → σ.2.2 = ns0 + slots → σ'.2.1 ≤ r.2.2.1 → σ'.2.2 ≤ r.2.2.2 →
            (∀ (H1 : Heap) (locs1 : List Loc), mb_Rep D cT s0 σ' H1 → va_S (fun q => s0.heap.size ≤ q) s.heap H1 locs1 → W p l e R s m args below meth c H1 locs1 (cells + (σ'.2.1 - σ.2.1)) (slots + (σ'.2.2 - σ.2.2)) Q (F0 m (pc + 3) LS (v.toList ++ st.drop (n + 1)))) → W p l e R s m args below meth c H locs cells slots Q (F0 m pc LS st) := by
          intro v H locs LS cells slots hov hR hS hL hc hs gr1 gr2 kk
          have hM2 := mb_met hM ⟨v, hov⟩
          rw [hov] at hM2
          refine mb_aft (rest := st.drop (n + 1)) (a := (Value.ref b :: as).toArray) (va_runI (cc := cc) (nL := nL) (Ts := []) (own := own) (index := idx) (y := y0) (bytes := bytes) (maxL := maxL) (n := n) (b := b) (As := as) ⟨hx, hb, hml, hown, fun _ h => nomatch h⟩ hM2 ⟨⟨rfl, rfl, ?_, ?_, ?_, List.mem_singleton.mpr rfl, mb_tr hW rfl (hX.1 _ u1), mb_tr hW rfl (hX.1 _ u2), u3, ?_, mb_tr hW rfl (hX.1 _ hw1)⟩, hy1, mb_tr hW rfl (hX.1 _ hw2)⟩ ⟨mb_blind, fun U hU hWU => ⟨rfl, State.WarmedH.trans hW hWU, by rw [hU]; exact hR⟩⟩ rfl hasl hL.2.1 (by rw [← hst2]) (by show 2 * 0 + _ ≤ 8; omega) hd ⟨by omega, by omega⟩) hbase (by have := hS.1; rw [hR.1] at this; omega) hS kk
          · show d - 1 + 1 ≤ R.frames; omega
          · show 8 + (maxL + 11) + 37 * (d - 1) ≤ R.locals
            have : maxL ≤ 18 := u5
            omega
          · intro w hw9 a' U hWU
            rw [List.mem_singleton.mp hw9]
            exact mb_tr (State.WarmedH.trans hW hWU) (mb_gcw _) (hX.1 _ u1)
          · intro sig hsig
            have h9 : (parseMethodDescriptor y0.desc).map (fun d => d.parameters.length) = some n := u4
            rw [hsig] at h9
            exact (Option.some.inj h9).symm
        unfold mb_bk at h
        split at h
        · rename_i σ1 he
          cases he
          have g := hk _ _ _ _ h
          refine ⟨⟨by have := g.1.1; omega, by have := g.1.2; omega⟩, fun H locs LS cells slots hR hS hL hc hs => hgo none H locs LS cells slots rfl hR hS hL hc hs g.1.1 g.1.2 (fun H1 locs1 hR1 hS1 => ?_)⟩
          exact g.2 H1 locs1 LS _ _ hR1 hS1 hL (by omega) (by omega)
        · rename_i v σ1 he
          cases he
          have g := hk _ _ _ _ h
          refine ⟨⟨by have := g.1.1; omega, by have := g.1.2; omega⟩, fun H locs LS cells slots hR hS hL hc hs => hgo (some v) H locs LS cells slots rfl hR hS hL hc hs g.1.1 g.1.2 (fun H1 locs1 hR1 hS1 => ?_)⟩
          exact g.2 H1 locs1 LS _ _ hR1 hS1 hL (by omega) (by omega)
        · cases h
    · cases h
  · cases h
theorem ms_callin {host : String} {idx y n : Nat} {y0 : MethodName} {bytes : ByteArray} {maxL : Nat} (hX : mb_Fx l D cT s0 args0) (hq : M[y]? = some (y0, bytes, maxL, none, [])) (hw : mb_Cal own idx (y0, bytes, maxL, none, []) n) (hy1 : y0.name = "<init>") (hw1 : Cond.methodLinkNest own idx y0 host ∈ lw_tbl) (hw2 : Cond.instanceMethod y0 ∈ lw_tbl) (hd : decode cc pc = .ok (.invokespecial idx, 3)) (hn : nx = pc + 3) : mb_Snd l D cT s0 M own nm cc nL ret hh pc (mi_calli y (n + 1) nx) := by
  subst hn
  intro d p e R s m args below meth c Q nx0 ns0 r hC hE h1 h2 call k hcall hk ls st σ h
  obtain ⟨hx, hb, hr, hml, hown, hlk, hnm, hW, hz, hbase, htab, c1, c2⟩ := hC
  unfold mi_calli at h
  split at h
  · rename_i b as hst
    split at h
    · rename_i hcnd
      obtain ⟨hc1, hlen, hrest⟩ := hcnd
      generalize hcr : call y (.ref b :: as) σ = res at h
      obtain _ | ⟨o, σ'⟩ := res
      · cases h
      · obtain ⟨gm1, gm2, hd1, hmet⟩ := hcall _ _ _ _ _ hcr
        have hM := hmet _ hq
        have hst2 : st = as.reverse ++ .ref b :: st.drop (n + 1) := by
          have e1 : st.take (n + 1) = as.reverse ++ [.ref b] := by rw [← List.reverse_reverse (st.take (n + 1)), hst]; simp
          calc st = st.take (n + 1) ++ st.drop (n + 1) := (List.take_append_drop _ _).symm
            _ = as.reverse ++ .ref b :: st.drop (n + 1) := by rw [e1]; simp
        have hasl : as.length = n := by
          have : (st.take (n + 1)).reverse.length = n + 1 := by rw [List.length_reverse]; exact hlen
          rw [hst] at this
          simpa using this
        obtain ⟨u1, u2, u3, u4, u5⟩ := hw
        have hrs : (((st.drop (n + 1)).map fun v => v.category).sum) ≤ 8 := by have := mb_cat (st.drop (n + 1)); omega
        have hgo : ∀ (v : Option Value) (H : Heap) (locs : List Loc) (LS : Array Slot) (cells slots : Nat), o = .inl v → mb_Rep D cT s0 σ H → va_S (fun q => s0.heap.size ≤ q) s.heap H locs → mb_LS nL ls LS → σ.2.1 = nx0 + cells → σ.2.2 = ns0 + slots → σ'.2.1 ≤ r.2.2.1 → σ'.2.2 ≤ r.2.2.2 →
            (∀ (H1 : Heap) (locs1 : List Loc), mb_Rep D cT s0 σ' H1 → va_S (fun q => s0.heap.size ≤ q) s.heap H1 locs1 → W p l e R s m args below meth c H1 locs1 (cells + (σ'.2.1 - σ.2.1)) (slots + (σ'.2.2 - σ.2.2)) Q (F0 m (pc + 3) LS (v.toList ++ st.drop (n + 1)))) → W p l e R s m args below meth c H locs cells slots Q (F0 m pc LS st) := by
          intro v H locs LS cells slots hov hR hS hL hc hs gr1 gr2 kk
          have hM2 := mb_met hM ⟨v, hov⟩
          rw [hov] at hM2
          refine mb_aft (rest := st.drop (n + 1)) (a := (Value.ref b :: as).toArray) (va_runIN (cc := cc) (nL := nL) (Ts := []) (own := own) (host := host) (index := idx) (y := y0) (bytes := bytes) (maxL := maxL) (n := n) (b := b) (As := as) ⟨hx, hb, hml, hown, fun _ h => nomatch h⟩ hM2 ⟨⟨⟨rfl, rfl, ?_, ?_, ?_, List.mem_singleton.mpr rfl⟩, mb_tr hW rfl (hX.1 _ u1), mb_tr hW rfl (hX.1 _ u2), u3, ?_, mb_tr hW rfl (hX.1 _ hw1)⟩, hy1, mb_tr hW rfl (hX.1 _ hw2)⟩ ⟨mb_blind, fun U hU hWU => ⟨rfl, State.WarmedH.trans hW hWU, by rw [hU]; exact hR⟩⟩ rfl hasl hL.2.1 (by rw [← hst2]) (by show 2 * 0 + _ ≤ 8; omega) hd ⟨by omega, by omega⟩) hbase (by have := hS.1; rw [hR.1] at this; omega) hS kk
          · show d - 1 + 1 ≤ R.frames; omega
          · show 8 + (maxL + 11) + 37 * (d - 1) ≤ R.locals
            have : maxL ≤ 18 := u5
            omega
          · intro w hw9 a' U hWU
            rw [List.mem_singleton.mp hw9]
            exact mb_tr (State.WarmedH.trans hW hWU) (mb_gcw _) (hX.1 _ u1)
          · intro sig hsig
            have h9 : (parseMethodDescriptor y0.desc).map (fun d => d.parameters.length) = some n := u4
            rw [hsig] at h9
            exact (Option.some.inj h9).symm
        unfold mb_bk at h
        split at h
        · rename_i σ1 he
          cases he
          have g := hk _ _ _ _ h
          refine ⟨⟨by have := g.1.1; omega, by have := g.1.2; omega⟩, fun H locs LS cells slots hR hS hL hc hs => hgo none H locs LS cells slots rfl hR hS hL hc hs g.1.1 g.1.2 (fun H1 locs1 hR1 hS1 => ?_)⟩
          exact g.2 H1 locs1 LS _ _ hR1 hS1 hL (by omega) (by omega)
        · rename_i v σ1 he
          cases he
          have g := hk _ _ _ _ h
          refine ⟨⟨by have := g.1.1; omega, by have := g.1.2; omega⟩, fun H locs LS cells slots hR hS hL hc hs => hgo (some v) H locs LS cells slots rfl hR hS hL hc hs g.1.1 g.1.2 (fun H1 locs1 hR1 hS1 => ?_)⟩
          exact g.2 H1 locs1 LS _ _ hR1 hS1 hL (by omega) (by omega)
        · cases h
    · cases h
  · cases h
theorem ms_calls {idx y n : Nat} {y0 : MethodName} {bytes : ByteArray} {maxL : Nat} {ret' : Option FieldType} (hX : mb_Fx l D cT s0 args0) (hq : M[y]? = some (y0, bytes, maxL, ret', [])) (hw : mb_Cal own idx (y0, bytes, maxL, ret', []) n) (hw1 : Cond.methodLink own idx y0 ∈ lw_tbl) (hw2 : Cond.static y0 ∈ lw_tbl) (hd : decode cc pc = .ok (.invokestatic idx, 3)) (hn : nx = pc + 3) : mb_Snd l D cT s0 M own nm cc nL ret hh pc (mi_calls y n nx) := by
  subst hn
  intro d p e R s m args below meth c Q nx0 ns0 r hC hE h1 h2 call k hcall hk ls st σ h
  obtain ⟨hx, hb, hr, hml, hown, hlk, hnm, hW, hz, hbase, htab, c1, c2⟩ := hC
  unfold mi_calls at h
  split at h
  · rename_i hcnd
    obtain ⟨hc1, hlen, hrest⟩ := hcnd
    generalize hcr : call y (st.take n).reverse σ = res at h
    obtain _ | ⟨o, σ'⟩ := res
    · cases h
    · obtain ⟨gm1, gm2, hd1, hmet⟩ := hcall _ _ _ _ _ hcr
      have hM := hmet _ hq
      have hst2 : st = (st.take n).reverse.reverse ++ st.drop n := by rw [List.reverse_reverse]; exact (List.take_append_drop _ _).symm
      have hasl : (st.take n).reverse.length = n := by rw [List.length_reverse]; exact hlen
      obtain ⟨u1, u2, u3, u4, u5⟩ := hw
      have hrs : (((st.drop n).map fun v => v.category).sum) ≤ 8 := by have := mb_cat (st.drop n); omega
      have hgo : ∀ (v : Option Value) (H : Heap) (locs : List Loc) (LS : Array Slot) (cells slots : Nat), o = .inl v → mb_Rep D cT s0 σ H → va_S (fun q => s0.heap.size ≤ q) s.heap H locs → mb_LS nL ls LS → σ.2.1 = nx0 + cells → σ.2.2 = ns0 + slots → σ'.2.1 ≤ r.2.2.1 → σ'.2.2 ≤ r.2.2.2 →
          (∀ (H1 : Heap) (locs1 : List Loc), mb_Rep D cT s0 σ' H1 → va_S (fun q => s0.heap.size ≤ q) s.heap H1 locs1 → W p l e R s m args below meth c H1 locs1 (cells + (σ'.2.1 - σ.2.1)) (slots + (σ'.2.2 - σ.2.2)) Q (F0 m (pc + 3) LS (v.toList ++ st.drop n))) → W p l e R s m args below meth c H locs cells slots Q (F0 m pc LS st) := by
        intro v H locs LS cells slots hov hR hS hL hc hs gr1 gr2 kk
        have hM2 := mb_met hM ⟨v, hov⟩
        rw [hov] at hM2
        refine mb_aft (rest := st.drop n) (a := (st.take n).reverse.toArray) (va_runS (cc := cc) (nL := nL) (Ts := []) (own := own) (index := idx) (y := y0) (bytes := bytes) (maxL := maxL) (ret := ret') (n := n) (As := (st.take n).reverse) ⟨hx, hb, hml, hown, fun _ h => nomatch h⟩ hM2 ⟨⟨rfl, rfl, ?_, ?_, ?_, List.mem_singleton.mpr rfl, mb_tr hW rfl (hX.1 _ u1), mb_tr hW rfl (hX.1 _ u2), u3, ?_, mb_tr hW rfl (hX.1 _ hw1)⟩, mb_tr hW rfl (hX.1 _ hw2)⟩ ⟨mb_blind, fun U hU hWU => ⟨rfl, State.WarmedH.trans hW hWU, by rw [hU]; exact hR⟩⟩ rfl hasl hL.2.1 (by rw [← hst2]) (by show 2 * 0 + _ ≤ 8; omega) hd ⟨by omega, by omega⟩) hbase (by have := hS.1; rw [hR.1] at this; omega) hS kk
        · show d - 1 + 1 ≤ R.frames; omega
        · show 8 + (maxL + 11) + 37 * (d - 1) ≤ R.locals
          have : maxL ≤ 18 := u5
          omega
        · intro w hw9 a' U hWU
          rw [List.mem_singleton.mp hw9]
          exact mb_tr (State.WarmedH.trans hW hWU) (mb_gcw _) (hX.1 _ u1)
        · intro sig hsig
          have h9 : (parseMethodDescriptor y0.desc).map (fun d => d.parameters.length) = some n := u4
          rw [hsig] at h9
          exact (Option.some.inj h9).symm
      unfold mb_bk at h
      split at h
      · rename_i σ1 he
        cases he
        have g := hk _ _ _ _ h
        refine ⟨⟨by have := g.1.1; omega, by have := g.1.2; omega⟩, fun H locs LS cells slots hR hS hL hc hs => hgo none H locs LS cells slots rfl hR hS hL hc hs g.1.1 g.1.2 (fun H1 locs1 hR1 hS1 => ?_)⟩
        exact g.2 H1 locs1 LS _ _ hR1 hS1 hL (by omega) (by omega)
      · rename_i v σ1 he
        cases he
        have g := hk _ _ _ _ h
        refine ⟨⟨by have := g.1.1; omega, by have := g.1.2; omega⟩, fun H locs LS cells slots hR hS hL hc hs => hgo (some v) H locs LS cells slots rfl hR hS hL hc hs g.1.1 g.1.2 (fun H1 locs1 hR1 hS1 => ?_)⟩
        exact g.2 H1 locs1 LS _ _ hR1 hS1 hL (by omega) (by omega)
      · cases h
  · cases h
theorem ms_callsx {idx y n : Nat} {y0 : MethodName} {bytes : ByteArray} {maxL : Nat} {ret' : Option FieldType} {hs : List (Nat × Nat × Nat)} (hX : mb_Fx l D cT s0 args0) (hq : M[y]? = some (y0, bytes, maxL, ret', [])) (hw : mb_Cal own idx (y0, bytes, maxL, ret', []) n) (hw1 : Cond.methodLink own idx y0 ∈ lw_tbl) (hw2 : Cond.static y0 ∈ lw_tbl) (hd : decode cc pc = .ok (.invokestatic idx, 3)) (hH : ∀ E t i, hs.lookup E = some (t, i) → mb_Hd own cc hh pc E t i) (hn : nx = pc + 3) : mb_Snd l D cT s0 M own nm cc nL ret hh pc (mi_callsx y n nx hs) := by
  subst hn
  intro d p e R s m args below meth c Q nx0 ns0 r hC hE h1 h2 call k hcall hk ls st σ h
  obtain ⟨hx, hb, hr, hml, hown, hlk, hnm, hW, hz, hbase, htab, c1, c2⟩ := hC
  unfold mi_callsx at h
  split at h
  · rename_i hcnd
    obtain ⟨hc1, hlen, hrest⟩ := hcnd
    generalize hcr : call y (st.take n).reverse σ = res at h
    obtain _ | ⟨o, σ'⟩ := res
    · cases h
    · obtain ⟨gm1, gm2, hd1, hmet⟩ := hcall _ _ _ _ _ hcr
      have hM := hmet _ hq
      have hst2 : st = (st.take n).reverse.reverse ++ st.drop n := by rw [List.reverse_reverse]; exact (List.take_append_drop _ _).symm
      have hasl : (st.take n).reverse.length = n := by rw [List.length_reverse]; exact hlen
      obtain ⟨u1, u2, u3, u4, u5⟩ := hw
      have hrs : (((st.drop n).map fun v => v.category).sum) ≤ 8 := by have := mb_cat (st.drop n); omega
      have hgo : ∀ (H : Heap) (locs : List Loc) (LS : Array Slot) (cells slots : Nat), mb_Rep D cT s0 σ H → va_S (fun q => s0.heap.size ≤ q) s.heap H locs → mb_LS nL ls LS → σ.2.1 = nx0 + cells → σ.2.2 = ns0 + slots → σ'.2.1 ≤ r.2.2.1 → σ'.2.2 ≤ r.2.2.2 →
          (∀ (v : Option Value) (H1 : Heap) (locs1 : List Loc), o = .inl v → mb_Rep D cT s0 σ' H1 → va_S (fun q => s0.heap.size ≤ q) s.heap H1 locs1 → W p l e R s m args below meth c H1 locs1 (cells + (σ'.2.1 - σ.2.1)) (slots + (σ'.2.2 - σ.2.2)) Q (F0 m (pc + 3) LS (v.toList ++ st.drop n))) →
          (∀ (E : Nat) (ce : Cell) (q : Addr) (H1 : Heap) (locs1 : List Loc), o = .inr E → mb_Rep D cT s0 σ' H1 → va_S (fun q => s0.heap.size ≤ q) s.heap H1 locs1 → H1[q]? = some ce → ce.vm = .none → s.vm.findClass (mb_exn E) = some ce.cls → vx_W p l e R s m args below meth c H1 locs1 (cells + (σ'.2.1 - σ.2.1)) (slots + (σ'.2.2 - σ.2.2)) Q (F0 m pc LS (st.drop n)) q) → W p l e R s m args below meth c H locs cells slots Q (F0 m pc LS st) := by
        intro H locs LS cells slots hR hS hL hc hs gr1 gr2 kk kx
        refine mb_aftX (rest := st.drop n) (a := (st.take n).reverse.toArray) (vx_runS (cc := cc) (nL := nL) (Ts := []) (own := own) (index := idx) (y := y0) (bytes := bytes) (maxL := maxL) (ret := ret') (n := n) (As := (st.take n).reverse) ⟨hx, hb, hml, hown, fun _ h => nomatch h⟩ hM ⟨⟨rfl, rfl, ?_, ?_, ?_, List.mem_singleton.mpr rfl, mb_tr hW rfl (hX.1 _ u1), mb_tr hW rfl (hX.1 _ u2), u3, ?_, mb_tr hW rfl (hX.1 _ hw1)⟩, mb_tr hW rfl (hX.1 _ hw2)⟩ ⟨mb_blind, fun U hU hWU => ⟨rfl, State.WarmedH.trans hW hWU, by rw [hU]; exact hR⟩⟩ rfl hasl hL.2.1 (by rw [← hst2]) (by show 2 * 0 + _ ≤ 8; omega) hd ⟨by omega, by omega⟩) hbase (by have := hS.1; rw [hR.1] at this; omega) hS kk kx
        · show d - 1 + 1 ≤ R.frames; omega
        · show 8 + (maxL + 11) + 37 * (d - 1) ≤ R.locals
          have : maxL ≤ 18 := u5
          omega
        · intro w hw9 a' U hWU
          rw [List.mem_singleton.mp hw9]
          exact mb_tr (State.WarmedH.trans hW hWU) (mb_gcw _) (hX.1 _ u1)
        · intro sig hsig
          have h9 : (parseMethodDescriptor y0.desc).map (fun d => d.parameters.length) = some n := u4
          rw [hsig] at h9
          exact (Option.some.inj h9).symm
      unfold mb_bx at h
      split at h
      · rename_i σ1 he
        cases he
        have g := hk _ _ _ _ h
        refine ⟨⟨by have := g.1.1; omega, by have := g.1.2; omega⟩, fun H locs LS cells slots hR hS hL hc hs => hgo H locs LS cells slots hR hS hL hc hs g.1.1 g.1.2 (fun v H1 locs1 hv hR1 hS1 => ?_) (fun E ce q H1 locs1 hE9 => by cases hE9)⟩
        cases hv
        exact g.2 H1 locs1 LS _ _ hR1 hS1 hL (by omega) (by omega)
      · rename_i v σ1 he
        cases he
        have g := hk _ _ _ _ h
        refine ⟨⟨by have := g.1.1; omega, by have := g.1.2; omega⟩, fun H locs LS cells slots hR hS hL hc hs => hgo H locs LS cells slots hR hS hL hc hs g.1.1 g.1.2 (fun v' H1 locs1 hv hR1 hS1 => ?_) (fun E ce q H1 locs1 hE9 => by cases hE9)⟩
        cases hv
        exact g.2 H1 locs1 LS _ _ hR1 hS1 hL (by omega) (by omega)
      · rename_i E σ1 he
        cases he
        split at h
        · rename_i t i hlk9
          split at h
          · rename_i hil
            have g := hk _ _ _ _ h
            obtain ⟨pre, x, suf, x1, x2, x3, x4, x5, x6, x7⟩ := hH E t i hlk9
            refine ⟨⟨by have := g.1.1; omega, by have := g.1.2; omega⟩, fun H locs LS cells slots hR hS hL hc hs => hgo H locs LS cells slots hR hS hL hc hs g.1.1 g.1.2 (fun v' H1 locs1 hv hR1 hS1 => by cases hv) (fun E' ce q H1 locs1 hE9 hR1 hS1 g1 g2 g3 => ?_)⟩
            cases hE9
            refine vx_catch hown pre x suf (htab.trans x1) (fun z hz => Or.inr ⟨(x2 z hz).1, ?_⟩) x3 x4 (mb_tr hW rfl (hX.1 _ x5)) (mb_tr hW rfl (hX.1 _ x6)) g1 g2 g3 ?_
            · obtain ⟨F, f1, f2⟩ := (x2 z hz).2
              exact ⟨_, mb_tr hW rfl (hX.1 _ f2), va_Nc.moved hW.alike (hX.2.2.2.2.2.2.2 E F f1)⟩
            · rcases x7 with ⟨k0, y1, y2, y3⟩ | ⟨y1, y3⟩
              · subst y3
                exact lv_astore_n (lv' := _) hx hb y1 y2 hL.has (by rw [← hL.1]; exact hil) rfl (fun LS' h' => g.2 H1 locs1 LS' _ _ hR1 hS1 (hL.unset hil rfl h') (by omega) (by omega))
              · subst y3
                exact lv_astore (lv' := _) hx hb y1 hL.has (by rw [← hL.1]; exact hil) rfl (fun LS' h' => g.2 H1 locs1 LS' _ _ hR1 hS1 (hL.unset hil rfl h') (by omega) (by omega))
          · cases h
        · cases h
      · rename_i he
        cases he
  · cases h
theorem ms_callsn {host : String} {idx y n : Nat} {y0 : MethodName} {bytes : ByteArray} {maxL : Nat} {ret' : Option FieldType} (hX : mb_Fx l D cT s0 args0) (hq : M[y]? = some (y0, bytes, maxL, ret', [])) (hw : mb_Cal own idx (y0, bytes, maxL, ret', []) n) (hw1 : Cond.methodLinkNest own idx y0 host ∈ lw_tbl) (hw2 : Cond.static y0 ∈ lw_tbl) (hd : decode cc pc = .ok (.invokestatic idx, 3)) (hn : nx = pc + 3) : mb_Snd l D cT s0 M own nm cc nL ret hh pc (mi_calls y n nx) := by
  subst hn
  intro d p e R s m args below meth c Q nx0 ns0 r hC hE h1 h2 call k hcall hk ls st σ h
  obtain ⟨hx, hb, hr, hml, hown, hlk, hnm, hW, hz, hbase, htab, c1, c2⟩ := hC
  unfold mi_calls at h
  split at h
  · rename_i hcnd
    obtain ⟨hc1, hlen, hrest⟩ := hcnd
    generalize hcr : call y (st.take n).reverse σ = res at h
    obtain _ | ⟨o, σ'⟩ := res
    · cases h
    · obtain ⟨gm1, gm2, hd1, hmet⟩ := hcall _ _ _ _ _ hcr
      have hM := hmet _ hq
      have hst2 : st = (st.take n).reverse.reverse ++ st.drop n := by rw [List.reverse_reverse]; exact (List.take_append_drop _ _).symm
      have hasl : (st.take n).reverse.length = n := by rw [List.length_reverse]; exact hlen
      obtain ⟨u1, u2, u3, u4, u5⟩ := hw
      have hrs : (((st.drop n).map fun v => v.category).sum) ≤ 8 := by have := mb_cat (st.drop n); omega
      have hgo : ∀ (v : Option Value) (H : Heap) (locs : List Loc) (LS : Array Slot) (cells slots : Nat), o = .inl v → mb_Rep D cT s0 σ H → va_S (fun q => s0.heap.size ≤ q) s.heap H locs → mb_LS nL ls LS → σ.2.1 = nx0 + cells → σ.2.2 = ns0 + slots → σ'.2.1 ≤ r.2.2.1 → σ'.2.2 ≤ r.2.2.2 →
          (∀ (H1 : Heap) (locs1 : List Loc), mb_Rep D cT s0 σ' H1 → va_S (fun q => s0.heap.size ≤ q) s.heap H1 locs1 → W p l e R s m args below meth c H1 locs1 (cells + (σ'.2.1 - σ.2.1)) (slots + (σ'.2.2 - σ.2.2)) Q (F0 m (pc + 3) LS (v.toList ++ st.drop n))) → W p l e R s m args below meth c H locs cells slots Q (F0 m pc LS st) := by
        intro v H locs LS cells slots hov hR hS hL hc hs gr1 gr2 kk
        have hM2 := mb_met hM ⟨v, hov⟩
        rw [hov] at hM2
        refine mb_aft (rest := st.drop n) (a := (st.take n).reverse.toArray) (va_runSN (cc := cc) (nL := nL) (Ts := []) (own := own) (host := host) (index := idx) (y := y0) (bytes := bytes) (maxL := maxL) (ret := ret') (n := n) (As := (st.take n).reverse) ⟨hx, hb, hml, hown, fun _ h => nomatch h⟩ hM2 ⟨⟨⟨rfl, rfl, ?_, ?_, ?_, List.mem_singleton.mpr rfl⟩, mb_tr hW rfl (hX.1 _ u1), mb_tr hW rfl (hX.1 _ u2), u3, ?_, mb_tr hW rfl (hX.1 _ hw1)⟩, mb_tr hW rfl (hX.1 _ hw2), trivial⟩ ⟨mb_blind, fun U hU hWU => ⟨rfl, State.WarmedH.trans hW hWU, by rw [hU]; exact hR⟩⟩ rfl hasl hL.2.1 (by rw [← hst2]) (by show 2 * 0 + _ ≤ 8; omega) hd ⟨by omega, by omega⟩) hbase (by have := hS.1; rw [hR.1] at this; omega) hS kk
        · show d - 1 + 1 ≤ R.frames; omega
        · show 8 + (maxL + 11) + 37 * (d - 1) ≤ R.locals
          have : maxL ≤ 18 := u5
          omega
        · intro w hw9 a' U hWU
          rw [List.mem_singleton.mp hw9]
          exact mb_tr (State.WarmedH.trans hW hWU) (mb_gcw _) (hX.1 _ u1)
        · intro sig hsig
          have h9 : (parseMethodDescriptor y0.desc).map (fun d => d.parameters.length) = some n := u4
          rw [hsig] at h9
          exact (Option.some.inj h9).symm
      unfold mb_bk at h
      split at h
      · rename_i σ1 he
        cases he
        have g := hk _ _ _ _ h
        refine ⟨⟨by have := g.1.1; omega, by have := g.1.2; omega⟩, fun H locs LS cells slots hR hS hL hc hs => hgo none H locs LS cells slots rfl hR hS hL hc hs g.1.1 g.1.2 (fun H1 locs1 hR1 hS1 => ?_)⟩
        exact g.2 H1 locs1 LS _ _ hR1 hS1 hL (by omega) (by omega)
      · rename_i v σ1 he
        cases he
        have g := hk _ _ _ _ h
        refine ⟨⟨by have := g.1.1; omega, by have := g.1.2; omega⟩, fun H locs LS cells slots hR hS hL hc hs => hgo (some v) H locs LS cells slots rfl hR hS hL hc hs g.1.1 g.1.2 (fun H1 locs1 hR1 hS1 => ?_)⟩
        exact g.2 H1 locs1 LS _ _ hR1 hS1 hL (by omega) (by omega)
      · cases h
  · cases h
theorem ms_callsw {idx y n : Nat} {y0 : MethodName} {bytes : ByteArray} {maxL : Nat} {ret' : Option FieldType} {hd0 : Nat × Nat × Nat × Nat} {hs0 : List (Nat × Nat × Nat × Nat)} (hX : mb_Fx l D cT s0 args0) (hq : M[y]? = some (y0, bytes, maxL, ret', hd0 :: hs0)) (hw : mb_Cal own idx (y0, bytes, maxL, ret', hd0 :: hs0) n) (hw1 : Cond.methodLink own idx y0 ∈ lw_tbl) (hw2 : Cond.static y0 ∈ lw_tbl) (hd : decode cc pc = .ok (.invokestatic idx, 3)) (hn : nx = pc + 3) : mb_Snd l D cT s0 M own nm cc nL ret hh pc (mi_calls y n nx) := by
  subst hn
  intro d p e R s m args below meth c Q nx0 ns0 r hC hE h1 h2 call k hcall hk ls st σ h
  obtain ⟨hx, hb, hr, hml, hown, hlk, hnm, hW, hz, hbase, htab, c1, c2⟩ := hC
  unfold mi_calls at h
  split at h
  · rename_i hcnd
    obtain ⟨hc1, hlen, hrest⟩ := hcnd
    generalize hcr : call y (st.take n).reverse σ = res at h
    obtain _ | ⟨o, σ'⟩ := res
    · cases h
    · obtain ⟨gm1, gm2, hd1, hmet⟩ := hcall _ _ _ _ _ hcr
      have hM := hmet _ hq
      have hst2 : st = (st.take n).reverse.reverse ++ st.drop n := by rw [List.reverse_reverse]; exact (List.take_append_drop _ _).symm
      have hasl : (st.take n).reverse.length = n := by rw [List.length_reverse]; exact hlen
      obtain ⟨u1, u2, u3, u4, u5⟩ := hw
      have hrs : (((st.drop n).map fun v => v.category).sum) ≤ 8 := by have := mb_cat (st.drop n); omega
      have hgo : ∀ (v : Option Value) (H : Heap) (locs : List Loc) (LS : Array Slot) (cells slots : Nat), o = .inl v → mb_Rep D cT s0 σ H → va_S (fun q => s0.heap.size ≤ q) s.heap H locs → mb_LS nL ls LS → σ.2.1 = nx0 + cells → σ.2.2 = ns0 + slots → σ'.2.1 ≤ r.2.2.1 → σ'.2.2 ≤ r.2.2.2 →
          (∀ (H1 : Heap) (locs1 : List Loc), mb_Rep D cT s0 σ' H1 → va_S (fun q => s0.heap.size ≤ q) s.heap H1 locs1 → W p l e R s m args below meth c H1 locs1 (cells + (σ'.2.1 - σ.2.1)) (slots + (σ'.2.2 - σ.2.2)) Q (F0 m (pc + 3) LS (v.toList ++ st.drop n))) → W p l e R s m args below meth c H locs cells slots Q (F0 m pc LS st) := by
        intro v H locs LS cells slots hov hR hS hL hc hs gr1 gr2 kk
        have hM2 := mb_met hM ⟨v, hov⟩
        rw [hov] at hM2
        refine mb_aft (rest := st.drop n) (a := (st.take n).reverse.toArray) (vx_runSW (cc := cc) (nL := nL) (Ts := []) (own := own) (index := idx) (y := y0) (bytes := bytes) (maxL := maxL) (ret := ret') (hh := hd0 :: hs0) (n := n) (As := (st.take n).reverse) ⟨hx, hb, hml, hown, fun _ h => nomatch h⟩ hM2 ⟨⟨rfl, rfl, ?_, ?_, ?_, List.mem_singleton.mpr rfl⟩, mb_tr hW rfl (hX.1 _ u1), mb_tr hW rfl (hX.1 _ u2), u3, ?_, mb_tr hW rfl (hX.1 _ hw1), mb_tr hW rfl (hX.1 _ hw2)⟩ ⟨mb_blind, fun U hU hWU => ⟨rfl, State.WarmedH.trans hW hWU, by rw [hU]; exact hR⟩⟩ rfl hasl hL.2.1 (by rw [← hst2]) (by show 2 * 0 + _ ≤ 8; omega) hd ⟨by omega, by omega⟩) hbase (by have := hS.1; rw [hR.1] at this; omega) hS kk
        · show d - 1 + 1 ≤ R.frames; omega
        · show 8 + (maxL + 11) + 37 * (d - 1) ≤ R.locals
          have : maxL ≤ 18 := u5
          omega
        · intro w hw9 a' U hWU
          rw [List.mem_singleton.mp hw9]
          exact mb_tr (State.WarmedH.trans hW hWU) (mb_gcw _) (hX.1 _ u1)
        · intro sig hsig
          have h9 : (parseMethodDescriptor y0.desc).map (fun d => d.parameters.length) = some n := u4
          rw [hsig] at h9
          exact (Option.some.inj h9).symm
      unfold mb_bk at h
      split at h
      · rename_i σ1 he
        cases he
        have g := hk _ _ _ _ h
        refine ⟨⟨by have := g.1.1; omega, by have := g.1.2; omega⟩, fun H locs LS cells slots hR hS hL hc hs => hgo none H locs LS cells slots rfl hR hS hL hc hs g.1.1 g.1.2 (fun H1 locs1 hR1 hS1 => ?_)⟩
        exact g.2 H1 locs1 LS _ _ hR1 hS1 hL (by omega) (by omega)
      · rename_i v σ1 he
        cases he
        have g := hk _ _ _ _ h
        refine ⟨⟨by have := g.1.1; omega, by have := g.1.2; omega⟩, fun H locs LS cells slots hR hS hL hc hs => hgo (some v) H locs LS cells slots rfl hR hS hL hc hs g.1.1 g.1.2 (fun H1 locs1 hR1 hS1 => ?_)⟩
        exact g.2 H1 locs1 LS _ _ hR1 hS1 hL (by omega) (by omega)
      · cases h
  · cases h
end MBW
