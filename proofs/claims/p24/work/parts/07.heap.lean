/-! rows of the simulation: fields and arrays -/
theorem mb_fits {z : Nat} {v : Value} {ty : FieldType} (hv : mb_fit z v = true) (hz : (z = 0 ∧ ty = .int) ∨ (z = 1 ∧ ty = .boolean) ∨ (z = 2 ∧ ((∃ n, ty = .object n) ∨ ∃ t, ty = .array t))) : narrow ty v = v ∧ fits ty v = true := by
  rcases hz with ⟨rfl, rfl⟩ | ⟨rfl, rfl⟩ | ⟨rfl, h⟩
  · cases v <;> first | (simp [mb_fit] at hv; done) | exact ⟨rfl, rfl⟩
  · cases v <;> first | (simp [mb_fit] at hv; done) | skip
    rename_i x
    simp only [mb_fit, Bool.or_eq_true, beq_iff_eq] at hv
    rcases hv with rfl | rfl <;> exact ⟨by decide +kernel, by decide +kernel⟩
  · rcases h with ⟨n, rfl⟩ | ⟨t, rfl⟩ <;> (cases v <;> first | (simp [mb_fit] at hv; done) | exact ⟨rfl, rfl⟩)
theorem mb_tyq (kd : Nat) (h : 10 ≤ kd ∧ kd < 19) : ∃ ty, mb_ty kd = some ty ∧ ty.isReference = true := by
  obtain ⟨a1, a2⟩ := h
  rcases (show kd = 10 ∨ kd = 11 ∨ kd = 12 ∨ kd = 13 ∨ kd = 14 ∨ kd = 15 ∨ kd = 16 ∨ kd = 17 ∨ kd = 18 by omega) with q | q | q | q | q | q | q | q | q <;> (subst q; exact ⟨_, rfl, rfl⟩)
theorem mb_ty9 (ci : Nat) {ty : FieldType} (h : mb_ty (10 + ci) = some ty) : 10 + ci ≠ 9 := by omega
def mb_fl (own : String) (idx : Nat) (ref n d : String) : Prop := Cond.fieldLink own idx ref n d ∈ lw_tbl ∨ ∃ host : String, Cond.fieldLinkNest own idx ref n d host ∈ lw_tbl
section MBF
variable {l : Launch} {D : va_G} {cT : Nat → ClassId} {s0 : State} {args0 : Array Value} {M : mb_M} {own nm : String} {cc : ByteArray} {nL : Nat} {ret : Option FieldType} {hh : List (Nat × Nat × Nat × Nat)} {pc nx : Nat}
theorem ms_getf {idx kf ci N : Nat} {C : String} {T : u_T} (hX : mb_Fx l D cT s0 args0) (hcl : vwCl[ci]? = some (C, T, N)) (hkf : kf < N) (hU : ∀ w ∈ u_ws C T N, w ∈ lw_tbl ∧ mb_gw w = true) (hfl : mb_fl own idx (T kf).1 (T kf).2.1 (T kf).2.2.1) (hd : decode cc pc = .ok (.getfield idx, 3)) (hn : nx = pc + 3) : mb_Snd l D cT s0 M own nm cc nL ret hh pc (mi_getf ci kf nx) := by
  subst hn
  intro d p e R s m args below meth c Q nx0 ns0 r hC hE h1 h2 call k hcall hk ls st σ h
  obtain ⟨hx, hb, hr, hml, hown, hlk, hnm, hW, hz, hbase, htab, c1, c2⟩ := hC
  unfold mi_getf at h
  split at h
  · rename_i a st'
    unfold mb_gf at h
    split at h
    · rename_i c' fs hfs
      split at h
      · rename_i hcc
        subst hcc
        have g := hk _ _ _ _ h
        refine ⟨g.1, fun H locs LS cells slots hR hS hL hc hs => ?_⟩
        obtain ⟨hlt, hba, r', h1', cell, q1, q2, q3, q4⟩ := hR.2.2.2 a _ hfs
        have hr' : r' = (C, T, N) := Option.some.inj (h1'.symm.trans hcl)
        subst hr'
        obtain ⟨hSl, hfc, kC, hkC, hkind⟩ := (hX.2.2.1.moved hW.alike).1 _ _ hcl
        obtain ⟨cf, kf', fi, f, hi, hsl⟩ := hSl kf hkf
        have hts : ∀ w ∈ u_ws C T N, w.before args s = true := fun w hw => mb_tr hW (hU w hw).2 (hX.1 w (hU w hw).1)
        have hst := (u_facts hfc hkC (u_lays hts (fun _ h => h) hkf) hi).1
        have hv : cell.slots[f.slot]? = some (fs.getD kf .null) := by rw [hsl, q4 kf hkf]; rfl
        rcases hfl with hw | ⟨host, hw⟩
        · exact W.getf hx hb hown (mb_tr hW rfl (hX.1 _ hw)) hi hst q1 (by rw [q3]; exact fun q => by cases q) hv rfl rfl hd (g.2 H locs LS cells slots hR hS hL hc hs)
        · exact va_Wgetf hx hb hown (mb_tr hW rfl (hX.1 _ hw)) hi hst q1 (by rw [q3]; exact fun q => by cases q) hv rfl rfl hd (g.2 H locs LS cells slots hR hS hL hc hs)
      · cases h
    · cases h
  · cases h
theorem ms_putf {idx kf ci z N : Nat} {C : String} {T : u_T} (hX : mb_Fx l D cT s0 args0) (hcl : vwCl[ci]? = some (C, T, N)) (hkf : kf < N) (hU : ∀ w ∈ u_ws C T N, w ∈ lw_tbl ∧ mb_gw w = true) (ty0 : Nat → FieldType) (hty : ∀ k, k < N → parseFieldDescriptor (T k).2.2.1 = some (ty0 k)) (hnm0 : ∀ a, a < N → ∀ b, b < N → a ≠ b → (T a).2.1 ≠ (T b).2.1) (hzt : (z = 0 ∧ ty0 kf = .int) ∨ (z = 1 ∧ ty0 kf = .boolean) ∨ (z = 2 ∧ ((∃ n, ty0 kf = .object n) ∨ ∃ t, ty0 kf = .array t))) (hfin : (T kf).2.2.2 = false) (hfl : mb_fl own idx (T kf).1 (T kf).2.1 (T kf).2.2.1) (hd : decode cc pc = .ok (.putfield idx, 3)) (hn : nx = pc + 3) : mb_Snd l D cT s0 M own nm cc nL ret hh pc (mi_putf ci kf z nx) := by
  subst hn
  intro d p e R s m args below meth c Q nx0 ns0 r hC hE h1 h2 call k hcall hk ls st σ h
  obtain ⟨hx, hb, hr, hml, hown, hlk, hnm, hW, hz, hbase, htab, c1, c2⟩ := hC
  unfold mi_putf at h
  split at h
  · rename_i v a st'
    split at h
    · rename_i hvf
      unfold mb_gf at h
      split at h
      · rename_i c' fs hfs
        split at h
        · rename_i hcc
          subst hcc
          dsimp only at h
          split at h
          · rename_i hlen
            have g := hk _ _ _ _ h
            refine ⟨g.1, fun H locs LS cells slots hR hS hL hc hs => ?_⟩
            obtain ⟨hlt, hba, r', h1', cell, q1, q2, q3, q4⟩ := hR.2.2.2 a _ hfs
            have hr' : r' = (C, T, N) := Option.some.inj (h1'.symm.trans hcl)
            subst hr'
            have hK := hX.2.2.1.moved hW.alike
            obtain ⟨hSl, hfc, kC, hkC, hkind⟩ := hK.1 _ _ hcl
            obtain ⟨cf, kf', fi, f, hi, hsl⟩ := hSl kf hkf
            have hts : ∀ w ∈ u_ws C T N, w.before args s = true := fun w hw => mb_tr hW (hU w hw).2 (hX.1 w (hU w hw).1)
            have hst := (u_facts hfc hkC (u_lays hts (fun _ h => h) hkf) hi).1
            have hap := va_apart (own := own) hts (fun _ h => h) ty0 hty hnm0 hK hcl
            obtain ⟨hn1, hf1⟩ := mb_fits hvf hzt
            have hlay := hts _ (u_in_lay hkf)
            unfold u_lay at hlay
            rw [if_neg (by rw [hfin]; decide)] at hlay
            have h6 := u_store hfc hkC hkind hlay hi (hty kf hkf) hn1 hf1
            rcases hfl with hw | ⟨host, hw⟩
            · refine W.putK hx hb (f := f) ⟨hown, mb_tr hW rfl (hX.1 _ hw), ⟨_, _, _, hi⟩, hst⟩ (by rw [q2]; exact h6) q1 q3 (by rw [hsl]; exact k2_hasslot (q4 kf hkf)) rfl rfl hd fun H' e1 e2 e3 => ?_
              rw [hsl] at e1 ⊢
              exact g.2 H' _ LS cells slots (hR.up hfs hba e2 e3 ⟨hba, _, hcl, t_OB.to (V := updV (vp_V fs) kf v) ⟨_, e1, q2, q3, t_set q4 hap hkf v⟩ (fun j _ => vp_updV_set hlen v j)⟩) (hS.put e2 e3 hba) hL hc hs
            · refine va_WputK hx hb (f := f) hown (mb_tr hW rfl (hX.1 _ hw)) hi hst (by rw [q2]; exact h6) q1 q3 (by rw [hsl]; exact k2_hasslot (q4 kf hkf)) rfl rfl hd fun H' e1 e2 e3 => ?_
              rw [hsl] at e1 ⊢
              exact g.2 H' _ LS cells slots (hR.up hfs hba e2 e3 ⟨hba, _, hcl, t_OB.to (V := updV (vp_V fs) kf v) ⟨_, e1, q2, q3, t_set q4 hap hkf v⟩ (fun j _ => vp_updV_set hlen v j)⟩) (hS.put e2 e3 hba) hL hc hs
          · cases h
        · cases h
      · cases h
    · cases h
  · cases h
theorem ms_putF {idx kf ci z N : Nat} {C : String} {T : u_T} (hX : mb_Fx l D cT s0 args0) (hcl : vwCl[ci]? = some (C, T, N)) (hkf : kf < N) (hU : ∀ w ∈ u_ws C T N, w ∈ lw_tbl ∧ mb_gw w = true) (ty0 : Nat → FieldType) (hty : ∀ k, k < N → parseFieldDescriptor (T k).2.2.1 = some (ty0 k)) (hnm0 : ∀ a, a < N → ∀ b, b < N → a ≠ b → (T a).2.1 ≠ (T b).2.1) (hzt : (z = 0 ∧ ty0 kf = .int) ∨ (z = 1 ∧ ty0 kf = .boolean) ∨ (z = 2 ∧ ((∃ n, ty0 kf = .object n) ∨ ∃ t, ty0 kf = .array t))) (hfin : (T kf).2.2.2 = true) (hini : nm = "<init>") (hdecl : (T kf).1 = own) (hw : Cond.fieldLink own idx (T kf).1 (T kf).2.1 (T kf).2.2.1 ∈ lw_tbl) (hd : decode cc pc = .ok (.putfield idx, 3)) (hn : nx = pc + 3) : mb_Snd l D cT s0 M own nm cc nL ret hh pc (mi_putf ci kf z nx) := by
  subst hn
  intro d p e R s m args below meth c Q nx0 ns0 r hC hE h1 h2 call k hcall hk ls st σ h
  obtain ⟨hx, hb, hr, hml, hown, hlk, hnm, hW, hz, hbase, htab, c1, c2⟩ := hC
  unfold mi_putf at h
  split at h
  · rename_i v a st'
    split at h
    · rename_i hvf
      unfold mb_gf at h
      split at h
      · rename_i c' fs hfs
        split at h
        · rename_i hcc
          subst hcc
          dsimp only at h
          split at h
          · rename_i hlen
            have g := hk _ _ _ _ h
            refine ⟨g.1, fun H locs LS cells slots hR hS hL hc hs => ?_⟩
            obtain ⟨hlt, hba, r', h1', cell, q1, q2, q3, q4⟩ := hR.2.2.2 a _ hfs
            have hr' : r' = (C, T, N) := Option.some.inj (h1'.symm.trans hcl)
            subst hr'
            have hK := hX.2.2.1.moved hW.alike
            obtain ⟨hSl, hfc, kC, hkC, hkind⟩ := hK.1 _ _ hcl
            obtain ⟨cf, kf', fi, f, hi, hsl⟩ := hSl kf hkf
            have hts : ∀ w ∈ u_ws C T N, w.before args s = true := fun w hw => mb_tr hW (hU w hw).2 (hX.1 w (hU w hw).1)
            have hst := (u_facts hfc hkC (u_lays hts (fun _ h => h) hkf) hi).1
            have hap := va_apart (own := own) hts (fun _ h => h) ty0 hty hnm0 hK hcl
            obtain ⟨hn1, hf1⟩ := mb_fits hvf hzt
            have hlay := hts _ (u_in_lay hkf)
            unfold u_lay at hlay
            rw [if_pos hfin] at hlay
            have hcf : m.cls = cf := by
              obtain ⟨_, _, c', _, _, _, -, -, hf', -, -, -, hown2, -⟩ := Cond.laysFinal_spec hlay
              have e1 : c' = cf := by have := hi.symm.trans hf'; simp at this; exact this.1.symm
              rw [hdecl] at hown2
              rw [← e1]; exact Option.some.inj (hown.symm.trans hown2)
            have h6 := u_fits hfc hkC hkind (Or.inr hlay) hi (hty kf hkf) hn1 hf1
            refine W.putFinK hx hb hown (mb_tr hW rfl (hX.1 _ hw)) hi hst hcf (hnm.trans hini) (by rw [q2]; exact h6) q1 q3 (by rw [hsl]; exact k2_hasslot (q4 kf hkf)) rfl rfl hd fun H' e1 e2 e3 => ?_
            rw [hsl] at e1 ⊢
            exact g.2 H' _ LS cells slots (hR.up hfs hba e2 e3 ⟨hba, _, hcl, t_OB.to (V := updV (vp_V fs) kf v) ⟨_, e1, q2, q3, t_set q4 hap hkf v⟩ (fun j _ => vp_updV_set hlen v j)⟩) (hS.put e2 e3 hba) hL hc hs
          · cases h
        · cases h
      · cases h
    · cases h
  · cases h
theorem ms_iald (hX : mb_Fx l D cT s0 args0) (hd : decode cc pc = .ok (.iaload, 1)) (hn : nx = pc + 1) : mb_Snd l D cT s0 M own nm cc nL ret hh pc (mi_iald nx) := by
  subst hn
  intro d p e R s m args below meth c Q nx0 ns0 r hC hE h1 h2 call k hcall hk ls st σ h
  obtain ⟨hx, hb, hr, hml, hown, hlk, hnm, hW, hz, hbase, htab, c1, c2⟩ := hC
  unfold mi_iald at h
  split at h
  · rename_i i a st'
    unfold mb_gi at h
    split at h
    · rename_i kd n f hfs
      split at h
      · cases h
      · rename_i hin
        dsimp only at h
        split at h
        · rename_i hkd
          have g := hk _ _ _ _ h
          have hlt : i.toNatClampNeg < n := Nat.not_le.mp fun q => hin (Or.inr q)
          refine ⟨g.1, fun H locs LS cells slots hR hS hL hc hs => ?_⟩
          obtain ⟨-, hcell⟩ := hR.2.2.2 a _ hfs
          rcases hcell with ⟨h9, f', hf', hal, scr, z1, z2, z3, z4, z5⟩ | ⟨h9, hba, hcell⟩
          · cases hf'
            exact W.iald (v := .int (f i.toNatClampNeg)) hx hb (by rw [hR.2.2.1 a hal]; exact z1) (State.isArrayOf_alike hW.alike z2) z3 (by rw [z4]; exact hin) (z5 _ hlt) rfl rfl hd (g.2 H locs LS cells slots hR hS hL hc hs)
          · have hk0 : kd = 0 := by rcases hkd with q | q; exact q; exact absurd q h9
            subst hk0
            exact W.iald (v := .int (f i.toNatClampNeg)) hx hb hcell ((arrOfT_moved hW.alike (hX.2.2.2.1 0 .int rfl).1) n _) (fun q => by cases q) (by show ¬ (i < 0 ∨ (arrV _ _ _).slots.size ≤ _); rw [arrV_size]; exact hin) (by show (arrV _ _ _).slots[_]? = _; rw [arrV_read _ _ hlt]) rfl rfl hd (g.2 H locs LS cells slots hR hS hL hc hs)
        · cases h
    · cases h
  · cases h
theorem ms_aald (hX : mb_Fx l D cT s0 args0) (hd : decode cc pc = .ok (.aaload, 1)) (hn : nx = pc + 1) : mb_Snd l D cT s0 M own nm cc nL ret hh pc (mi_aald nx) := by
  subst hn
  intro d p e R s m args below meth c Q nx0 ns0 r hC hE h1 h2 call k hcall hk ls st σ h
  obtain ⟨hx, hb, hr, hml, hown, hlk, hnm, hW, hz, hbase, htab, c1, c2⟩ := hC
  unfold mi_aald at h
  split at h
  · rename_i i a st'
    unfold mb_gq at h
    split at h
    · rename_i kd n f hfs
      split at h
      · cases h
      · rename_i hin
        dsimp only at h
        split at h
        · rename_i hkd
          have g := hk _ _ _ _ h
          have hlt : i.toNatClampNeg < n := Nat.not_le.mp fun q => hin (Or.inr q)
          refine ⟨g.1, fun H locs LS cells slots hR hS hL hc hs => ?_⟩
          obtain ⟨-, hcell⟩ := hR.2.2.2 a _ hfs
          rcases hcell with ⟨h9, f', hf', hal, scr, z1, z2, z3, z4, z5⟩ | ⟨h9, hba, hcell⟩
          · exact absurd hkd.1 (by rw [h9]; decide)
          · obtain ⟨ty, hty, hre⟩ := mb_tyq kd hkd
            exact W.aald (v := va_rf (f i.toNatClampNeg)) (ty := ty) hx hb hcell ((arrOfT_moved hW.alike (hX.2.2.2.1 kd ty hty).1) n _) hre (fun q => by cases q) (by show ¬ (i < 0 ∨ (arrV _ _ _).slots.size ≤ _); rw [arrV_size]; exact hin) (by show (arrV _ _ _).slots[_]? = _; rw [arrV_read _ _ hlt]) rfl rfl hd (g.2 H locs LS cells slots hR hS hL hc hs)
        · cases h
    · cases h
  · cases h
theorem ms_iast (hX : mb_Fx l D cT s0 args0) (hd : decode cc pc = .ok (.iastore, 1)) (hn : nx = pc + 1) : mb_Snd l D cT s0 M own nm cc nL ret hh pc (mi_iast nx) := by
  subst hn
  intro d p e R s m args below meth c Q nx0 ns0 r hC hE h1 h2 call k hcall hk ls st σ h
  obtain ⟨hx, hb, hr, hml, hown, hlk, hnm, hW, hz, hbase, htab, c1, c2⟩ := hC
  unfold mi_iast at h
  split at h
  · rename_i x i a st'
    unfold mb_gi at h
    split at h
    · rename_i kd n f hfs
      split at h
      · cases h
      · rename_i hin
        dsimp only at h
        split at h
        · rename_i hkd
          have g := hk _ _ _ _ h
          refine ⟨g.1, fun H locs LS cells slots hR hS hL hc hs => ?_⟩
          obtain ⟨-, hcell⟩ := hR.2.2.2 a _ hfs
          obtain ⟨hk0, hxx⟩ : kd = 0 ∧ True := ⟨hkd, trivial⟩
          rcases hcell with ⟨h9, -⟩ | ⟨h9, hba, hcell⟩
          · exact absurd (hk0.symm.trans h9) (by decide)
          · subst hk0
            refine W.iast hx hb hcell ((arrOfT_moved hW.alike (hX.2.2.2.1 0 .int rfl).1) n _) (fun q => by cases q) (by show ¬ (i < 0 ∨ (arrV _ _ _).slots.size ≤ _); rw [arrV_size]; exact hin) rfl rfl hd fun H1 e1 z1 oq => ?_
            refine g.2 H1 _ LS cells slots (hR.up hfs hba z1 oq (Or.inr ⟨h9, hba, ?_⟩)) (hS.put z1 oq hba) hL hc hs
            rw [e1]
            rw [vp_cell_i, vp_cell_i, arrV_store]
            congr 2
            funext q
            by_cases hq : q = i.toNatClampNeg
            · subst hq
              simp [updV, upd]
            · simp [updV, upd, hq]
        · cases h
    · cases h
  · cases h
theorem ms_aast {ci N : Nat} {C : String} {T : u_T} (hX : mb_Fx l D cT s0 args0) (hcl : vwCl[ci]? = some (C, T, N)) (hty : mb_ty (10 + ci) = some (.object C)) (hd : decode cc pc = .ok (.aastore, 1)) (hn : nx = pc + 1) : mb_Snd l D cT s0 M own nm cc nL ret hh pc (mi_aast ci nx) := by
  subst hn
  intro d p e R s m args below meth c Q nx0 ns0 r hC hE h1 h2 call k hcall hk ls st σ h
  obtain ⟨hx, hb, hr, hml, hown, hlk, hnm, hW, hz, hbase, htab, c1, c2⟩ := hC
  unfold mi_aast at h
  split at h
  · rename_i v i a st'
    unfold mb_gf at h
    split at h
    · rename_i c' vs hvs
      split at h
      · rename_i hcc
        subst hcc
        dsimp only at h
        unfold mb_gq at h
        split at h
        · rename_i kd n f hfs
          split at h
          · cases h
          · rename_i hin
            dsimp only at h
            split at h
            · rename_i hkd
              subst hkd
              have g := hk _ _ _ _ h
              refine ⟨g.1, fun H locs LS cells slots hR hS hL hc hs => ?_⟩
              obtain ⟨-, hcell⟩ := hR.2.2.2 a _ hfs
              obtain ⟨-, hbv, r', hr', cellV, g1, g2, g3, -⟩ := hR.2.2.2 v _ hvs
              rcases hcell with ⟨h9, -⟩ | ⟨h9, hba, hcell⟩
              · exact absurd h9 (mb_ty9 _ hty)
              · have hlt : i.toNatClampNeg < n := Nat.not_le.mp fun q => hin (Or.inr q)
                have hcls := ((hX.2.2.1.moved hW.alike).1 _ _ hcl).2
                obtain ⟨kA, comp, k1, k2, k3, -⟩ := (hX.2.2.2.1 _ _ hty).2.moved hW.alike
                have hcomp : comp = D.1 c' := Option.some.inj (k3.symm.trans hcls.1)
                subst hcomp
                obtain ⟨kC, hkC, -⟩ := hcls.2
                refine W.aast hx hb hcell (fun q h => by cases h) (fun h => by cases h) k1 k2 rfl hkC ⟨fun q => hin (Or.inl q), by show _ < (arrV _ _ _).slots.size; rw [arrV_size]; exact hlt⟩ g1 (fun q h => by rw [g3] at h; cases h) (by rw [g2]; exact hkC) (by rw [g2]; exact va_assign hcls) rfl rfl hd fun H1 e1 z1 oq => ?_
                refine g.2 H1 _ LS cells slots (hR.up hfs hba z1 oq (Or.inr ⟨h9, hba, ?_⟩)) (hS.put z1 oq hba) hL hc hs
                rw [e1]
                rw [vp_cell_q, vp_cell_q, arrV_store]
                congr 2
                funext q
                by_cases hq : q = i.toNatClampNeg
                · subst hq
                  simp [updV, va_up, va_rf]
                · simp [updV, va_up, hq]
            · cases h
        · cases h
      · cases h
    · cases h
  · cases h
theorem ms_alen (hX : mb_Fx l D cT s0 args0) (hd : decode cc pc = .ok (.arraylength, 1)) (hn : nx = pc + 1) : mb_Snd l D cT s0 M own nm cc nL ret hh pc (mi_alen nx) := by
  subst hn
  intro d p e R s m args below meth c Q nx0 ns0 r hC hE h1 h2 call k hcall hk ls st σ h
  obtain ⟨hx, hb, hr, hml, hown, hlk, hnm, hW, hz, hbase, htab, c1, c2⟩ := hC
  unfold mi_alen at h
  split at h
  · rename_i a st'
    split at h
    · rename_i kd n f hfs
      split at h
      · rename_i hkd
        have g := hk _ _ _ _ h
        refine ⟨g.1, fun H locs LS cells slots hR hS hL hc hs => ?_⟩
        obtain ⟨-, hcell⟩ := hR.2.2.2 a _ hfs
        rcases hcell with ⟨h9, f', hf', hal, scr, z1, z2, z3, z4, z5⟩ | ⟨h9, -⟩
        · exact W.alen (n := Int32.ofNat n) hx hb (by rw [hR.2.2.1 a hal]; exact z1) (State.isArrayOf_alike hW.alike z2) (by rw [z4] <;> rfl) rfl rfl hd (g.2 H locs LS cells slots hR hS hL hc hs)
        · exact absurd hkd h9
      · cases h
    · cases h
  · cases h
theorem ms_new {idx ci N : Nat} {C : String} {T : u_T} {fs : List Value} (hX : mb_Fx l D cT s0 args0) (hcl : vwCl[ci]? = some (C, T, N)) (hU : ∀ w ∈ u_ws C T N, w ∈ lw_tbl ∧ mb_gw w = true) (ty0 : Nat → FieldType) (hty : ∀ k, k < N → parseFieldDescriptor (T k).2.2.1 = some (ty0 k)) (hfs : ∀ j, j < N → defaultValue (ty0 j) = vp_V fs j) (hlen : fs.length = N) (hw1 : Cond.classLink own idx C ∈ lw_tbl) (hw2 : Cond.instantiable C N ∈ lw_tbl) (hw3 : Cond.initialized C ∈ lw_tbl) (hd : decode cc pc = .ok (.new idx, 3)) (hn : nx = pc + 3) : mb_Snd l D cT s0 M own nm cc nL ret hh pc (mi_new ci fs nx) := by
  subst hn
  subst hlen
  intro d p e R s m args below meth c Q nx0 ns0 r hC hE h1 h2 call k hcall hk ls st σ h
  obtain ⟨hx, hb, hr, hml, hown, hlk, hnm, hW, hz, hbase, htab, c1, c2⟩ := hC
  have g := hk _ _ _ _ h
  have g1 : σ.2.1 + 1 ≤ r.2.2.1 := g.1.1
  have g2 : σ.2.2 + fs.length ≤ r.2.2.2 := g.1.2
  refine ⟨⟨by omega, by omega⟩, fun H locs LS cells slots hR hS hL hc hs => ?_⟩
  have hK := hX.2.2.1.moved hW.alike
  have hKn := hK.1 _ _ hcl
  have hts : ∀ w ∈ u_ws C T fs.length, w.before args s = true := fun w hw => mb_tr hW (hU w hw).2 (hX.1 w (hU w hw).1)
  refine W.newcK hx hb hown (mb_tr hW rfl (hX.1 _ hw1)) (mb_tr hW rfl (hX.1 _ hw2)) (mb_tr hW rfl (hX.1 _ hw3)) rfl hd (by omega) (by omega) hKn.2.1 rfl fun H1 kC hkC e1 z1 o1 => ?_
  rw [hR.1]
  exact g.2 H1 locs LS (cells + 1) (slots + fs.length) (hR.al _ z1 o1 ⟨by rw [hR.1]; exact hR.2.1, _, hcl, (u_born ty0 hts (fun _ h => h) hKn hkC e1 hty).to hfs⟩) ⟨Nat.le_trans hS.1 (by omega), fun x h1 h2 => (o1 x (Nat.lt_of_lt_of_le h1 hS.1)).trans (hS.2.1 x h1 h2), hS.2.2⟩ hL (by show σ.2.1 + 1 = _; omega) (by show σ.2.2 + fs.length = _; omega)
theorem ms_newi (hX : mb_Fx l D cT s0 args0) (hw : Cond.arrayClass .int ∈ lw_tbl) (hd : decode cc pc = .ok (.newarray .int, 2)) (hn : nx = pc + 2) : mb_Snd l D cT s0 M own nm cc nL ret hh pc (mi_newi nx) := by
  subst hn
  intro d p e R s m args below meth c Q nx0 ns0 r hC hE h1 h2 call k hcall hk ls st σ h
  obtain ⟨hx, hb, hr, hml, hown, hlk, hnm, hW, hz, hbase, htab, c1, c2⟩ := hC
  unfold mi_newi at h
  split at h
  · rename_i n st'
    split at h
    · cases h
    · rename_i hn9
      have hn0 : ¬ n < 0 := fun q => hn9 (Or.inl q)
      have hnb : n.toNatClampNeg ≤ 1000000 := Nat.not_lt.mp (fun q => hn9 (Or.inr q))
      have g := hk _ _ _ _ h
      have g1 : σ.2.1 + 1 ≤ r.2.2.1 := g.1.1
      have g2 : σ.2.2 + n.toNatClampNeg ≤ r.2.2.2 := g.1.2
      refine ⟨⟨by omega, by omega⟩, fun H locs LS cells slots hR hS hL hc hs => ?_⟩
      refine va_newaK (atype := .int) hx hb (mb_tr hW rfl (hX.1 _ hw)) (g := F0 m pc LS (.int n :: st')) rfl hd rfl hn0 rfl ?_ (by omega) (by omega) rfl fun H1 cA e1 z1 o1 hAr hNm => ?_
      · show n.toNatClampNeg * componentBytes .int ≤ 536870912
        have : componentBytes .int ≤ 8 := by decide
        calc n.toNatClampNeg * componentBytes .int ≤ 1000000 * 8 := Nat.mul_le_mul hnb this
          _ ≤ 536870912 := by decide
      · have hcA : cA = cT 0 := by
          have h9 := (hX.2.2.2.1 0 .int rfl).2.moved hW.alike
          exact Option.some.inj (hNm.symm.trans h9)
        subst hcA
        rw [hR.1]
        rw [hR.1] at e1
        exact g.2 H1 locs LS (cells + 1) (slots + n.toNatClampNeg) (hR.al _ z1 o1 (Or.inr ⟨by decide, by rw [hR.1]; exact hR.2.1, by rw [hR.1]; exact e1⟩)) ⟨Nat.le_trans hS.1 (by omega), fun x h1 h2 => (o1 x (Nat.lt_of_lt_of_le h1 hS.1)).trans (hS.2.1 x h1 h2), hS.2.2⟩ hL (by show σ.2.1 + 1 = _; omega) (by show σ.2.2 + n.toNatClampNeg = _; omega)
  · cases h
theorem ms_newq {idx ci : Nat} {C : String} (hX : mb_Fx l D cT s0 args0) (hty : mb_ty (10 + ci) = some (.object C)) (hw : Cond.classLink own idx C ∈ lw_tbl) (hw2 : Cond.arrayOver (.object C) ∈ lw_tbl) (hd : decode cc pc = .ok (.anewarray idx, 3)) (hn : nx = pc + 3) : mb_Snd l D cT s0 M own nm cc nL ret hh pc (mi_newq ci nx) := by
  subst hn
  intro d p e R s m args below meth c Q nx0 ns0 r hC hE h1 h2 call k hcall hk ls st σ h
  obtain ⟨hx, hb, hr, hml, hown, hlk, hnm, hW, hz, hbase, htab, c1, c2⟩ := hC
  unfold mi_newq at h
  split at h
  · rename_i n st'
    split at h
    · cases h
    · rename_i hn9
      have hn0 : ¬ n < 0 := fun q => hn9 (Or.inl q)
      have hnb : n.toNatClampNeg ≤ 1000000 := Nat.not_lt.mp (fun q => hn9 (Or.inr q))
      have g := hk _ _ _ _ h
      have g1 : σ.2.1 + 1 ≤ r.2.2.1 := g.1.1
      have g2 : σ.2.2 + n.toNatClampNeg ≤ r.2.2.2 := g.1.2
      refine ⟨⟨by omega, by omega⟩, fun H locs LS cells slots hR hS hL hc hs => ?_⟩
      refine W.anew hx hb hown (mb_tr hW rfl (hX.1 _ hw)) (va_AO.use (va_AO.moved hW.alike (va_AO.of (hX.1 _ hw2)))) (g := F0 m pc LS (.int n :: st')) rfl hd rfl hn0 (by omega) (by omega) (by omega) fun cA kA comp f1 f2 f3 f4 => ?_
      generalize hH1 : H.push ({ cls := cA, slots := Array.replicate n.toNatClampNeg .null, vm := .none } : Cell) = H1
      have z1 : H1.size = H.size + 1 := by rw [← hH1, Array.size_push]
      have e1 : H1[H.size]? = some (arrV cA n.toNatClampNeg (fun _ => .null)) := by rw [← hH1, Array.getElem?_push_size, ← arrV_new]
      have o1 : ∀ q : Nat, q < H.size → H1[q]? = H[q]? := fun q hq => by rw [← hH1, Array.getElem?_push, if_neg (Nat.ne_of_lt hq)]
      have hcA : cA = cT (10 + ci) := by
        obtain ⟨-, -, -, -, -, h9⟩ := (hX.2.2.2.1 _ _ hty).2.moved hW.alike
        exact Option.some.inj (f1.symm.trans h9)
      subst hcA
      rw [hR.1]
      rw [hR.1] at e1
      exact g.2 H1 locs LS (cells + 1) (slots + n.toNatClampNeg) (hR.al _ z1 o1 (Or.inr ⟨mb_ty9 _ hty, by rw [hR.1]; exact hR.2.1, by rw [hR.1]; exact e1⟩)) ⟨Nat.le_trans hS.1 (by omega), fun x h1 h2 => (o1 x (Nat.lt_of_lt_of_le h1 hS.1)).trans (hS.2.1 x h1 h2), hS.2.2⟩ hL (by show σ.2.1 + 1 = _; omega) (by show σ.2.2 + n.toNatClampNeg = _; omega)
  · cases h
end MBF
