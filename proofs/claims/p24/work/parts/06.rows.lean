/-! rows of the simulation: operands, branches, returns -/
section MBS
variable {l : Launch} {D : va_G} {cT : Nat → ClassId} {s0 : State} {args0 : Array Value} {M : mb_M} {own nm : String} {cc : ByteArray} {nL : Nat} {ret : Option FieldType} {hh : List (Nat × Nat × Nat × Nat)} {pc nx : Nat}
theorem ms_iadd (hd : decode cc pc = .ok (.iadd, 1)) (hn : nx = pc + 1) : mb_Snd l D cT s0 M own nm cc nL ret hh pc (mi_iadd nx) := by
  subst hn
  intro d p e R s m args below meth c Q nx0 ns0 r hC hE h1 h2 call k hcall hk ls st σ h
  unfold mi_iadd at h
  split at h
  · have g := hk _ _ _ _ h
    exact ⟨g.1, fun H locs LS cells slots hR hS hL hc hs => lv_iadd hC.1 hC.2.1 hd (g.2 H locs LS cells slots hR hS hL hc hs)⟩
  · cases h
theorem ms_isub (hd : decode cc pc = .ok (.isub, 1)) (hn : nx = pc + 1) : mb_Snd l D cT s0 M own nm cc nL ret hh pc (mi_isub nx) := by
  subst hn
  intro d p e R s m args below meth c Q nx0 ns0 r hC hE h1 h2 call k hcall hk ls st σ h
  unfold mi_isub at h
  split at h
  · have g := hk _ _ _ _ h
    exact ⟨g.1, fun H locs LS cells slots hR hS hL hc hs => lv_isub hC.1 hC.2.1 hd (g.2 H locs LS cells slots hR hS hL hc hs)⟩
  · cases h
theorem ms_imul (hd : decode cc pc = .ok (.imul, 1)) (hn : nx = pc + 1) : mb_Snd l D cT s0 M own nm cc nL ret hh pc (mi_imul nx) := by
  subst hn
  intro d p e R s m args below meth c Q nx0 ns0 r hC hE h1 h2 call k hcall hk ls st σ h
  unfold mi_imul at h
  split at h
  · have g := hk _ _ _ _ h
    exact ⟨g.1, fun H locs LS cells slots hR hS hL hc hs => lv_imul hC.1 hC.2.1 hd (g.2 H locs LS cells slots hR hS hL hc hs)⟩
  · cases h
theorem ms_iand (hd : decode cc pc = .ok (.iand, 1)) (hn : nx = pc + 1) : mb_Snd l D cT s0 M own nm cc nL ret hh pc (mi_iand nx) := by
  subst hn
  intro d p e R s m args below meth c Q nx0 ns0 r hC hE h1 h2 call k hcall hk ls st σ h
  unfold mi_iand at h
  split at h
  · have g := hk _ _ _ _ h
    exact ⟨g.1, fun H locs LS cells slots hR hS hL hc hs => lv_iand hC.1 hC.2.1 hd (g.2 H locs LS cells slots hR hS hL hc hs)⟩
  · cases h
theorem ms_ixor (hd : decode cc pc = .ok (.ixor, 1)) (hn : nx = pc + 1) : mb_Snd l D cT s0 M own nm cc nL ret hh pc (mi_ixor nx) := by
  subst hn
  intro d p e R s m args below meth c Q nx0 ns0 r hC hE h1 h2 call k hcall hk ls st σ h
  unfold mi_ixor at h
  split at h
  · have g := hk _ _ _ _ h
    exact ⟨g.1, fun H locs LS cells slots hR hS hL hc hs => lv_ixor hC.1 hC.2.1 hd (g.2 H locs LS cells slots hR hS hL hc hs)⟩
  · cases h
theorem ms_ineg (hd : decode cc pc = .ok (.ineg, 1)) (hn : nx = pc + 1) : mb_Snd l D cT s0 M own nm cc nL ret hh pc (mi_ineg nx) := by
  subst hn
  intro d p e R s m args below meth c Q nx0 ns0 r hC hE h1 h2 call k hcall hk ls st σ h
  unfold mi_ineg at h
  split at h
  · have g := hk _ _ _ _ h
    exact ⟨g.1, fun H locs LS cells slots hR hS hL hc hs => lv_ineg hC.1 hC.2.1 hd (g.2 H locs LS cells slots hR hS hL hc hs)⟩
  · cases h
theorem ms_lcmp (hd : decode cc pc = .ok (.lcmp, 1)) (hn : nx = pc + 1) : mb_Snd l D cT s0 M own nm cc nL ret hh pc (mi_lcmp nx) := by
  subst hn
  intro d p e R s m args below meth c Q nx0 ns0 r hC hE h1 h2 call k hcall hk ls st σ h
  unfold mi_lcmp at h
  split at h
  · have g := hk _ _ _ _ h
    exact ⟨g.1, fun H locs LS cells slots hR hS hL hc hs => W.lcmp hC.1 hC.2.1 hd (g.2 H locs LS cells slots hR hS hL hc hs)⟩
  · cases h
theorem ms_i2l (hd : decode cc pc = .ok (.i2l, 1)) (hn : nx = pc + 1) : mb_Snd l D cT s0 M own nm cc nL ret hh pc (mi_i2l nx) := by
  subst hn
  intro d p e R s m args below meth c Q nx0 ns0 r hC hE h1 h2 call k hcall hk ls st σ h
  unfold mi_i2l at h
  split at h
  · have g := hk _ _ _ _ h
    exact ⟨g.1, fun H locs LS cells slots hR hS hL hc hs => lv_i2l hC.1 hC.2.1 hd rfl (g.2 H locs LS cells slots hR hS hL hc hs)⟩
  · cases h
theorem ms_idiv (hd : decode cc pc = .ok (.idiv, 1)) (hn : nx = pc + 1) : mb_Snd l D cT s0 M own nm cc nL ret hh pc (mi_idiv nx) := by
  subst hn
  intro d p e R s m args below meth c Q nx0 ns0 r hC hE h1 h2 call k hcall hk ls st σ h
  unfold mi_idiv at h
  split at h
  · split at h
    · cases h
    · rename_i hne
      have g := hk _ _ _ _ h
      exact ⟨g.1, fun H locs LS cells slots hR hS hL hc hs => lv_idiv hC.1 hC.2.1 hd hne (g.2 H locs LS cells slots hR hS hL hc hs)⟩
  · cases h
theorem ms_irem (hd : decode cc pc = .ok (.irem, 1)) (hn : nx = pc + 1) : mb_Snd l D cT s0 M own nm cc nL ret hh pc (mi_irem nx) := by
  subst hn
  intro d p e R s m args below meth c Q nx0 ns0 r hC hE h1 h2 call k hcall hk ls st σ h
  unfold mi_irem at h
  split at h
  · split at h
    · cases h
    · rename_i hne
      rw [← irem_eq_mod] at h
      have g := hk _ _ _ _ h
      exact ⟨g.1, fun H locs LS cells slots hR hS hL hc hs => lv_irem hC.1 hC.2.1 hd hne (g.2 H locs LS cells slots hR hS hL hc hs)⟩
  · cases h
theorem ms_ishr (hd : decode cc pc = .ok (.ishr, 1)) (hn : nx = pc + 1) : mb_Snd l D cT s0 M own nm cc nL ret hh pc (mi_ishr nx) := by
  subst hn
  intro d p e R s m args below meth c Q nx0 ns0 r hC hE h1 h2 call k hcall hk ls st σ h
  unfold mi_ishr at h
  split at h
  · have g := hk _ _ _ _ h
    exact ⟨g.1, fun H locs LS cells slots hR hS hL hc hs => lv_ishr hC.1 hC.2.1 hd (g.2 H locs LS cells slots hR hS hL hc hs)⟩
  · cases h
theorem ms_dup (hd : decode cc pc = .ok (.dup, 1)) (hn : nx = pc + 1) : mb_Snd l D cT s0 M own nm cc nL ret hh pc (mi_dup nx) := by
  subst hn
  intro d p e R s m args below meth c Q nx0 ns0 r hC hE h1 h2 call k hcall hk ls st σ h
  unfold mi_dup at h
  split at h
  · split at h
    · rename_i hv
      have g := hk _ _ _ _ h
      exact ⟨g.1, fun H locs LS cells slots hR hS hL hc hs => lv_dup hC.1 hC.2.1 hd hv (g.2 H locs LS cells slots hR hS hL hc hs)⟩
    · cases h
  · cases h
theorem ms_pop (hd : decode cc pc = .ok (.pop, 1)) (hn : nx = pc + 1) : mb_Snd l D cT s0 M own nm cc nL ret hh pc (mi_pop nx) := by
  subst hn
  intro d p e R s m args below meth c Q nx0 ns0 r hC hE h1 h2 call k hcall hk ls st σ h
  unfold mi_pop at h
  split at h
  · split at h
    · rename_i hv
      have g := hk _ _ _ _ h
      exact ⟨g.1, fun H locs LS cells slots hR hS hL hc hs => lv_pop hC.1 hC.2.1 hd hv (g.2 H locs LS cells slots hR hS hL hc hs)⟩
    · cases h
  · cases h
theorem ms_dup2 (hd : decode cc pc = .ok (.dup2, 1)) (hn : nx = pc + 1) : mb_Snd l D cT s0 M own nm cc nL ret hh pc (mi_dup2 nx) := by
  subst hn
  intro d p e R s m args below meth c Q nx0 ns0 r hC hE h1 h2 call k hcall hk ls st σ h
  unfold mi_dup2 at h
  split at h
  · split at h
    · rename_i hv
      have g := hk _ _ _ _ h
      exact ⟨g.1, fun H locs LS cells slots hR hS hL hc hs => lv_dup2_11 hC.1 hC.2.1 hd hv.1 hv.2 (g.2 H locs LS cells slots hR hS hL hc hs)⟩
    · cases h
  · cases h
theorem ms_dupx1 (hd : decode cc pc = .ok (.dup_x1, 1)) (hn : nx = pc + 1) : mb_Snd l D cT s0 M own nm cc nL ret hh pc (mi_dupx1 nx) := by
  subst hn
  intro d p e R s m args below meth c Q nx0 ns0 r hC hE h1 h2 call k hcall hk ls st σ h
  unfold mi_dupx1 at h
  split at h
  · split at h
    · rename_i hv
      have g := hk _ _ _ _ h
      exact ⟨g.1, fun H locs LS cells slots hR hS hL hc hs => lv_dup_x1 hC.1 hC.2.1 hd hv.1 hv.2 (g.2 H locs LS cells slots hR hS hL hc hs)⟩
    · cases h
  · cases h
theorem ms_goto {off : Int} (hd : decode cc pc = .ok (.goto off, 3)) (ht : (pc : Int) + off = (nx : Int)) : mb_Snd l D cT s0 M own nm cc nL ret hh pc (mi_go nx) := by
  intro d p e R s m args below meth c Q nx0 ns0 r hC hE h1 h2 call k hcall hk ls st σ h
  have g := hk _ _ _ _ h
  exact ⟨g.1, fun H locs LS cells slots hR hS hL hc hs => lv_goto hC.1 hC.2.1 hd ht (g.2 H locs LS cells slots hR hS hL hc hs)⟩
theorem ms_ifnull {off : Int} {t : Nat} (hd : decode cc pc = .ok (.ifnull off, 3)) (ht : (pc : Int) + off = (t : Int)) (hn : nx = pc + 3) : mb_Snd l D cT s0 M own nm cc nL ret hh pc (mi_ifn t nx) := by
  subst hn
  intro d p e R s m args below meth c Q nx0 ns0 r hC hE h1 h2 call k hcall hk ls st σ h
  unfold mi_ifn at h
  split at h
  · have g := hk _ _ _ _ h
    exact ⟨g.1, fun H locs LS cells slots hR hS hL hc hs => lv_ifnull hC.1 hC.2.1 hd (g.2 H locs LS cells slots hR hS hL hc hs)⟩
  · have g := hk _ _ _ _ h
    exact ⟨g.1, fun H locs LS cells slots hR hS hL hc hs => lv_ifnullN hC.1 hC.2.1 hd ht (g.2 H locs LS cells slots hR hS hL hc hs)⟩
  · cases h
theorem ms_ifnonnull {off : Int} {t : Nat} (hd : decode cc pc = .ok (.ifnonnull off, 3)) (ht : (pc : Int) + off = (t : Int)) (hn : nx = pc + 3) : mb_Snd l D cT s0 M own nm cc nL ret hh pc (mi_ifnn t nx) := by
  subst hn
  intro d p e R s m args below meth c Q nx0 ns0 r hC hE h1 h2 call k hcall hk ls st σ h
  unfold mi_ifnn at h
  split at h
  · have g := hk _ _ _ _ h
    exact ⟨g.1, fun H locs LS cells slots hR hS hL hc hs => lv_ifnonnull hC.1 hC.2.1 hd ht (g.2 H locs LS cells slots hR hS hL hc hs)⟩
  · have g := hk _ _ _ _ h
    exact ⟨g.1, fun H locs LS cells slots hR hS hL hc hs => lv_ifnonnullN hC.1 hC.2.1 hd (g.2 H locs LS cells slots hR hS hL hc hs)⟩
  · cases h
theorem ms_if_eq {off : Int} {t : Nat} (hd : decode cc pc = .ok (.ifCond .eq off, 3)) (ht : (pc : Int) + off = (t : Int)) (hn : nx = pc + 3) : mb_Snd l D cT s0 M own nm cc nL ret hh pc (mi_if1 (fun x => x == 0) t nx) := by
  subst hn
  intro d p e R s m args below meth c Q nx0 ns0 r hC hE h1 h2 call k hcall hk ls st σ h
  unfold mi_if1 at h
  split at h
  · rename_i x st'
    split at h
    · rename_i hcnd
      have g := hk _ _ _ _ h
      exact ⟨g.1, fun H locs LS cells slots hR hS hL hc hs => lv_if_eq hC.1 hC.2.1 hd ht (fun _ => g.2 H locs LS cells slots hR hS hL hc hs) (fun hq => absurd hcnd (by revert hq; simp))⟩
    · rename_i hcnd
      have g := hk _ _ _ _ h
      exact ⟨g.1, fun H locs LS cells slots hR hS hL hc hs => lv_if_eq hC.1 hC.2.1 hd ht (fun hq => absurd hq (by revert hcnd; simp)) (fun _ => g.2 H locs LS cells slots hR hS hL hc hs)⟩
  · cases h
theorem ms_if_ne {off : Int} {t : Nat} (hd : decode cc pc = .ok (.ifCond .ne off, 3)) (ht : (pc : Int) + off = (t : Int)) (hn : nx = pc + 3) : mb_Snd l D cT s0 M own nm cc nL ret hh pc (mi_if1 (fun x => x != 0) t nx) := by
  subst hn
  intro d p e R s m args below meth c Q nx0 ns0 r hC hE h1 h2 call k hcall hk ls st σ h
  unfold mi_if1 at h
  split at h
  · rename_i x st'
    split at h
    · rename_i hcnd
      have g := hk _ _ _ _ h
      exact ⟨g.1, fun H locs LS cells slots hR hS hL hc hs => lv_if_ne hC.1 hC.2.1 hd ht (fun _ => g.2 H locs LS cells slots hR hS hL hc hs) (fun hq => absurd hcnd (by revert hq; simp))⟩
    · rename_i hcnd
      have g := hk _ _ _ _ h
      exact ⟨g.1, fun H locs LS cells slots hR hS hL hc hs => lv_if_ne hC.1 hC.2.1 hd ht (fun hq => absurd hq (by revert hcnd; simp)) (fun _ => g.2 H locs LS cells slots hR hS hL hc hs)⟩
  · cases h
theorem ms_if_lt {off : Int} {t : Nat} (hd : decode cc pc = .ok (.ifCond .lt off, 3)) (ht : (pc : Int) + off = (t : Int)) (hn : nx = pc + 3) : mb_Snd l D cT s0 M own nm cc nL ret hh pc (mi_if1 (fun x => decide (x < 0)) t nx) := by
  subst hn
  intro d p e R s m args below meth c Q nx0 ns0 r hC hE h1 h2 call k hcall hk ls st σ h
  unfold mi_if1 at h
  split at h
  · rename_i x st'
    split at h
    · rename_i hcnd
      have g := hk _ _ _ _ h
      exact ⟨g.1, fun H locs LS cells slots hR hS hL hc hs => lv_if_lt hC.1 hC.2.1 hd ht (fun _ => g.2 H locs LS cells slots hR hS hL hc hs) (fun hq => absurd hcnd (by revert hq; simp))⟩
    · rename_i hcnd
      have g := hk _ _ _ _ h
      exact ⟨g.1, fun H locs LS cells slots hR hS hL hc hs => lv_if_lt hC.1 hC.2.1 hd ht (fun hq => absurd hq (by revert hcnd; simp)) (fun _ => g.2 H locs LS cells slots hR hS hL hc hs)⟩
  · cases h
theorem ms_if_ge {off : Int} {t : Nat} (hd : decode cc pc = .ok (.ifCond .ge off, 3)) (ht : (pc : Int) + off = (t : Int)) (hn : nx = pc + 3) : mb_Snd l D cT s0 M own nm cc nL ret hh pc (mi_if1 (fun x => decide (0 ≤ x)) t nx) := by
  subst hn
  intro d p e R s m args below meth c Q nx0 ns0 r hC hE h1 h2 call k hcall hk ls st σ h
  unfold mi_if1 at h
  split at h
  · rename_i x st'
    split at h
    · rename_i hcnd
      have g := hk _ _ _ _ h
      exact ⟨g.1, fun H locs LS cells slots hR hS hL hc hs => lv_if_ge hC.1 hC.2.1 hd ht (fun _ => g.2 H locs LS cells slots hR hS hL hc hs) (fun hq => absurd hcnd (by revert hq; simp))⟩
    · rename_i hcnd
      have g := hk _ _ _ _ h
      exact ⟨g.1, fun H locs LS cells slots hR hS hL hc hs => lv_if_ge hC.1 hC.2.1 hd ht (fun hq => absurd hq (by revert hcnd; simp)) (fun _ => g.2 H locs LS cells slots hR hS hL hc hs)⟩
  · cases h
theorem ms_if_gt {off : Int} {t : Nat} (hd : decode cc pc = .ok (.ifCond .gt off, 3)) (ht : (pc : Int) + off = (t : Int)) (hn : nx = pc + 3) : mb_Snd l D cT s0 M own nm cc nL ret hh pc (mi_if1 (fun x => decide (0 < x)) t nx) := by
  subst hn
  intro d p e R s m args below meth c Q nx0 ns0 r hC hE h1 h2 call k hcall hk ls st σ h
  unfold mi_if1 at h
  split at h
  · rename_i x st'
    split at h
    · rename_i hcnd
      have g := hk _ _ _ _ h
      exact ⟨g.1, fun H locs LS cells slots hR hS hL hc hs => lv_if_gt hC.1 hC.2.1 hd ht (fun _ => g.2 H locs LS cells slots hR hS hL hc hs) (fun hq => absurd hcnd (by revert hq; simp))⟩
    · rename_i hcnd
      have g := hk _ _ _ _ h
      exact ⟨g.1, fun H locs LS cells slots hR hS hL hc hs => lv_if_gt hC.1 hC.2.1 hd ht (fun hq => absurd hq (by revert hcnd; simp)) (fun _ => g.2 H locs LS cells slots hR hS hL hc hs)⟩
  · cases h
theorem ms_if_le {off : Int} {t : Nat} (hd : decode cc pc = .ok (.ifCond .le off, 3)) (ht : (pc : Int) + off = (t : Int)) (hn : nx = pc + 3) : mb_Snd l D cT s0 M own nm cc nL ret hh pc (mi_if1 (fun x => decide (x ≤ 0)) t nx) := by
  subst hn
  intro d p e R s m args below meth c Q nx0 ns0 r hC hE h1 h2 call k hcall hk ls st σ h
  unfold mi_if1 at h
  split at h
  · rename_i x st'
    split at h
    · rename_i hcnd
      have g := hk _ _ _ _ h
      exact ⟨g.1, fun H locs LS cells slots hR hS hL hc hs => lv_if_le hC.1 hC.2.1 hd ht (fun _ => g.2 H locs LS cells slots hR hS hL hc hs) (fun hq => absurd hcnd (by revert hq; simp))⟩
    · rename_i hcnd
      have g := hk _ _ _ _ h
      exact ⟨g.1, fun H locs LS cells slots hR hS hL hc hs => lv_if_le hC.1 hC.2.1 hd ht (fun hq => absurd hq (by revert hcnd; simp)) (fun _ => g.2 H locs LS cells slots hR hS hL hc hs)⟩
  · cases h
theorem ms_icmp_eq {off : Int} {t : Nat} (hd : decode cc pc = .ok (.if_icmp .eq off, 3)) (ht : (pc : Int) + off = (t : Int)) (hn : nx = pc + 3) : mb_Snd l D cT s0 M own nm cc nL ret hh pc (mi_if2 (fun x y => x == y) t nx) := by
  subst hn
  intro d p e R s m args below meth c Q nx0 ns0 r hC hE h1 h2 call k hcall hk ls st σ h
  unfold mi_if2 at h
  split at h
  · rename_i y x st'
    split at h
    · rename_i hcnd
      have g := hk _ _ _ _ h
      exact ⟨g.1, fun H locs LS cells slots hR hS hL hc hs => lv_icmp_eq hC.1 hC.2.1 hd ht (fun _ => g.2 H locs LS cells slots hR hS hL hc hs) (fun hq => absurd hcnd (by revert hq; simp))⟩
    · rename_i hcnd
      have g := hk _ _ _ _ h
      exact ⟨g.1, fun H locs LS cells slots hR hS hL hc hs => lv_icmp_eq hC.1 hC.2.1 hd ht (fun hq => absurd hq (by revert hcnd; simp)) (fun _ => g.2 H locs LS cells slots hR hS hL hc hs)⟩
  · cases h
theorem ms_icmp_ne {off : Int} {t : Nat} (hd : decode cc pc = .ok (.if_icmp .ne off, 3)) (ht : (pc : Int) + off = (t : Int)) (hn : nx = pc + 3) : mb_Snd l D cT s0 M own nm cc nL ret hh pc (mi_if2 (fun x y => x != y) t nx) := by
  subst hn
  intro d p e R s m args below meth c Q nx0 ns0 r hC hE h1 h2 call k hcall hk ls st σ h
  unfold mi_if2 at h
  split at h
  · rename_i y x st'
    split at h
    · rename_i hcnd
      have g := hk _ _ _ _ h
      exact ⟨g.1, fun H locs LS cells slots hR hS hL hc hs => lv_icmp_ne hC.1 hC.2.1 hd ht (fun _ => g.2 H locs LS cells slots hR hS hL hc hs) (fun hq => absurd hcnd (by revert hq; simp))⟩
    · rename_i hcnd
      have g := hk _ _ _ _ h
      exact ⟨g.1, fun H locs LS cells slots hR hS hL hc hs => lv_icmp_ne hC.1 hC.2.1 hd ht (fun hq => absurd hq (by revert hcnd; simp)) (fun _ => g.2 H locs LS cells slots hR hS hL hc hs)⟩
  · cases h
theorem ms_icmp_lt {off : Int} {t : Nat} (hd : decode cc pc = .ok (.if_icmp .lt off, 3)) (ht : (pc : Int) + off = (t : Int)) (hn : nx = pc + 3) : mb_Snd l D cT s0 M own nm cc nL ret hh pc (mi_if2 (fun x y => decide (x < y)) t nx) := by
  subst hn
  intro d p e R s m args below meth c Q nx0 ns0 r hC hE h1 h2 call k hcall hk ls st σ h
  unfold mi_if2 at h
  split at h
  · rename_i y x st'
    split at h
    · rename_i hcnd
      have g := hk _ _ _ _ h
      exact ⟨g.1, fun H locs LS cells slots hR hS hL hc hs => lv_icmp_lt hC.1 hC.2.1 hd ht (fun _ => g.2 H locs LS cells slots hR hS hL hc hs) (fun hq => absurd hcnd (by revert hq; simp))⟩
    · rename_i hcnd
      have g := hk _ _ _ _ h
      exact ⟨g.1, fun H locs LS cells slots hR hS hL hc hs => lv_icmp_lt hC.1 hC.2.1 hd ht (fun hq => absurd hq (by revert hcnd; simp)) (fun _ => g.2 H locs LS cells slots hR hS hL hc hs)⟩
  · cases h
theorem ms_icmp_ge {off : Int} {t : Nat} (hd : decode cc pc = .ok (.if_icmp .ge off, 3)) (ht : (pc : Int) + off = (t : Int)) (hn : nx = pc + 3) : mb_Snd l D cT s0 M own nm cc nL ret hh pc (mi_if2 (fun x y => decide (y ≤ x)) t nx) := by
  subst hn
  intro d p e R s m args below meth c Q nx0 ns0 r hC hE h1 h2 call k hcall hk ls st σ h
  unfold mi_if2 at h
  split at h
  · rename_i y x st'
    split at h
    · rename_i hcnd
      have g := hk _ _ _ _ h
      exact ⟨g.1, fun H locs LS cells slots hR hS hL hc hs => lv_icmp_ge hC.1 hC.2.1 hd ht (fun _ => g.2 H locs LS cells slots hR hS hL hc hs) (fun hq => absurd hcnd (by revert hq; simp))⟩
    · rename_i hcnd
      have g := hk _ _ _ _ h
      exact ⟨g.1, fun H locs LS cells slots hR hS hL hc hs => lv_icmp_ge hC.1 hC.2.1 hd ht (fun hq => absurd hq (by revert hcnd; simp)) (fun _ => g.2 H locs LS cells slots hR hS hL hc hs)⟩
  · cases h
theorem ms_icmp_gt {off : Int} {t : Nat} (hd : decode cc pc = .ok (.if_icmp .gt off, 3)) (ht : (pc : Int) + off = (t : Int)) (hn : nx = pc + 3) : mb_Snd l D cT s0 M own nm cc nL ret hh pc (mi_if2 (fun x y => decide (y < x)) t nx) := by
  subst hn
  intro d p e R s m args below meth c Q nx0 ns0 r hC hE h1 h2 call k hcall hk ls st σ h
  unfold mi_if2 at h
  split at h
  · rename_i y x st'
    split at h
    · rename_i hcnd
      have g := hk _ _ _ _ h
      exact ⟨g.1, fun H locs LS cells slots hR hS hL hc hs => lv_icmp_gt hC.1 hC.2.1 hd ht (fun _ => g.2 H locs LS cells slots hR hS hL hc hs) (fun hq => absurd hcnd (by revert hq; simp))⟩
    · rename_i hcnd
      have g := hk _ _ _ _ h
      exact ⟨g.1, fun H locs LS cells slots hR hS hL hc hs => lv_icmp_gt hC.1 hC.2.1 hd ht (fun hq => absurd hq (by revert hcnd; simp)) (fun _ => g.2 H locs LS cells slots hR hS hL hc hs)⟩
  · cases h
theorem ms_icmp_le {off : Int} {t : Nat} (hd : decode cc pc = .ok (.if_icmp .le off, 3)) (ht : (pc : Int) + off = (t : Int)) (hn : nx = pc + 3) : mb_Snd l D cT s0 M own nm cc nL ret hh pc (mi_if2 (fun x y => decide (x ≤ y)) t nx) := by
  subst hn
  intro d p e R s m args below meth c Q nx0 ns0 r hC hE h1 h2 call k hcall hk ls st σ h
  unfold mi_if2 at h
  split at h
  · rename_i y x st'
    split at h
    · rename_i hcnd
      have g := hk _ _ _ _ h
      exact ⟨g.1, fun H locs LS cells slots hR hS hL hc hs => lv_icmp_le hC.1 hC.2.1 hd ht (fun _ => g.2 H locs LS cells slots hR hS hL hc hs) (fun hq => absurd hcnd (by revert hq; simp))⟩
    · rename_i hcnd
      have g := hk _ _ _ _ h
      exact ⟨g.1, fun H locs LS cells slots hR hS hL hc hs => lv_icmp_le hC.1 hC.2.1 hd ht (fun hq => absurd hq (by revert hcnd; simp)) (fun _ => g.2 H locs LS cells slots hR hS hL hc hs)⟩
  · cases h
theorem ms_tsw {dflt hi : Int} {offs : Array Int} {len t0 : Nat} {ts : List Nat} (hd : decode cc pc = .ok (.tableswitch dflt 0 hi offs, len)) (ht : (pc : Int) + dflt = (t0 : Int)) (hl : hi + 1 = (ts.length : Int)) (hts : offs.toList.map (fun o => (pc : Int) + o) = ts.map (fun t : Nat => (t : Int))) : mb_Snd l D cT s0 M own nm cc nL ret hh pc (mi_tsw ts t0) := by
  intro d p e R s m args below meth c Q nx0 ns0 r hC hE h1 h2 call k hcall hk ls st σ h
  unfold mi_tsw at h
  split at h
  · rename_i x st'
    split at h
    · rename_i hx
      have g := hk _ _ _ _ h
      exact ⟨g.1, fun H locs LS cells slots hR hS hL hc hs => lv_tableOut hC.1 hC.2.1 hd (Or.inl (by rw [Int32.lt_iff_toInt_lt] at hx; exact hx)) ht (g.2 H locs LS cells slots hR hS hL hc hs)⟩
    · rename_i hx
      have hx0 : ¬ x.toInt < 0 := by rw [Int32.lt_iff_toInt_lt] at hx; exact hx
      have hcl : (x.toNatClampNeg : Int) = x.toInt := by
        show ((x.toInt.toNat : Nat) : Int) = x.toInt
        omega
      split at h
      · rename_i t htt
        have g := hk _ _ _ _ h
        have hlt : x.toNatClampNeg < ts.length := (List.getElem?_eq_some_iff.mp htt).1
        have hz : x.toInt - 0 = x.toInt := by omega
        have e1 : (offs.toList.map (fun o => (pc : Int) + o))[x.toNatClampNeg]? = some (t : Int) := by rw [hts, List.getElem?_map, htt]; rfl
        rw [List.getElem?_map] at e1
        cases ho : offs.toList[x.toNatClampNeg]? with
        | none => rw [ho] at e1; cases e1
        | some off =>
          rw [ho] at e1
          have e2 : (pc : Int) + off = (t : Int) := Option.some.inj e1
          exact ⟨g.1, fun H locs LS cells slots hR hS hL hc hs => lv_tableIn hC.1 hC.2.1 hd hx0 (by omega) (by rw [hz, ← Array.getElem?_toList]; exact ho) e2 (g.2 H locs LS cells slots hR hS hL hc hs)⟩
      · rename_i htt
        have g := hk _ _ _ _ h
        have hge : ts.length ≤ x.toNatClampNeg := by simpa using htt
        exact ⟨g.1, fun H locs LS cells slots hR hS hL hc hs => lv_tableOut hC.1 hC.2.1 hd (Or.inr (by omega)) ht (g.2 H locs LS cells slots hR hS hL hc hs)⟩
  · cases h
theorem ms_iret (hd : decode cc pc = .ok (.ireturn, 1)) (hr : ret = some .int) : mb_Snd l D cT s0 M own nm cc nL ret hh pc mi_iret := by
  intro d p e R s m args below meth c Q nx0 ns0 r hC hE h1 h2 call k hcall hk ls st σ h
  unfold mi_iret at h
  split at h
  · have e := (Option.some.inj h).symm
    refine ⟨by rw [e]; exact ⟨Nat.le_refl _, Nat.le_refl _⟩, fun H locs LS cells slots hR hS hL hc hs => (hE pc H locs ls LS cells slots σ hR hS hL hc hs).1 _ _ e hr rfl hd⟩
  · cases h
theorem ms_zret (hd : decode cc pc = .ok (.ireturn, 1)) (hr : ret = some .boolean) : mb_Snd l D cT s0 M own nm cc nL ret hh pc mi_zret := by
  intro d p e R s m args below meth c Q nx0 ns0 r hC hE h1 h2 call k hcall hk ls st σ h
  unfold mi_zret at h
  split at h
  · split at h
    · rename_i hv
      have e := (Option.some.inj h).symm
      refine ⟨by rw [e]; exact ⟨Nat.le_refl _, Nat.le_refl _⟩, fun H locs LS cells slots hR hS hL hc hs => (hE pc H locs ls LS cells slots σ hR hS hL hc hs).1 _ _ e hr (by rcases hv with rfl | rfl <;> decide +kernel) hd⟩
    · cases h
  · cases h
theorem ms_aret {ty : FieldType} (hd : decode cc pc = .ok (.areturn, 1)) (hr : ret = some ty) (hty : (∃ n, ty = .object n) ∨ ∃ t, ty = .array t) : mb_Snd l D cT s0 M own nm cc nL ret hh pc mi_aret := by
  intro d p e R s m args below meth c Q nx0 ns0 r hC hE h1 h2 call k hcall hk ls st σ h
  unfold mi_aret at h
  split at h
  · have e := (Option.some.inj h).symm
    refine ⟨by rw [e]; exact ⟨Nat.le_refl _, Nat.le_refl _⟩, fun H locs LS cells slots hR hS hL hc hs => (hE pc H locs ls LS cells slots σ hR hS hL hc hs).2.1 _ _ e hr hty (Or.inr ⟨_, rfl⟩) hd⟩
  · have e := (Option.some.inj h).symm
    refine ⟨by rw [e]; exact ⟨Nat.le_refl _, Nat.le_refl _⟩, fun H locs LS cells slots hR hS hL hc hs => (hE pc H locs ls LS cells slots σ hR hS hL hc hs).2.1 _ _ e hr hty (Or.inl rfl) hd⟩
  · cases h
theorem ms_vret (hd : decode cc pc = .ok (.return_, 1)) (hr : ret = none) : mb_Snd l D cT s0 M own nm cc nL ret hh pc mi_vret := by
  intro d p e R s m args below meth c Q nx0 ns0 r hC hE h1 h2 call k hcall hk ls st σ h
  unfold mi_vret at h
  split at h
  · have e := (Option.some.inj h).symm
    refine ⟨by rw [e]; exact ⟨Nat.le_refl _, Nat.le_refl _⟩, fun H locs LS cells slots hR hS hL hc hs => (hE pc H locs ls LS cells slots σ hR hS hL hc hs).2.2.1 e hr hd⟩
  · cases h
theorem ms_thr {E : Nat} (hT : mb_Thr own cc hh pc E) : mb_Snd l D cT s0 M own nm cc nL ret hh pc (mi_thr E) := by
  intro d p e R s m args below meth c Q nx0 ns0 r hC hE h1 h2 call k hcall hk ls st σ h
  unfold mi_thr at h
  split at h
  · split at h
    · rename_i hd6
      have e := (Option.some.inj h).symm
      obtain ⟨-, -, -, -, -, -, -, -, -, -, -, c1, c2⟩ := hC
      refine ⟨by rw [e]; exact ⟨Nat.le_succ _, Nat.le_add_right _ _⟩, fun H locs LS cells slots hR hS hL hc hs => (hE pc H locs ls LS cells slots σ hR hS hL hc hs).2.2.2.1 E e hT (by omega) (by omega)⟩
    · cases h
  · cases h
theorem ms_oinit {ic : Nat} (hX : mb_Fx l D cT s0 args0) (hd : decode cc pc = .ok (.invokespecial ic, 3)) (hn : nx = pc + 3) (hw1 : Cond.methodLink own ic Lib.objectInit ∈ lw_tbl) (hw2 : Cond.instanceMethod Lib.objectInit ∈ lw_tbl) (hw3 : Cond.code Lib.objectInit ⟨#[0xb1]⟩ 1 none ∈ lw_tbl) : mb_Snd l D cT s0 M own nm cc nL ret hh pc (mi_oinit nx) := by
  subst hn
  intro d p e R s m args below meth c Q nx0 ns0 r hC hE h1 h2 call k hcall hk ls st σ h
  unfold mi_oinit at h
  split at h
  · split at h
    · rename_i a st' hd1
      have g := hk _ _ _ _ h
      obtain ⟨hx, hb, hr, hml, hown, hlk, hnm, hW, hz, hbase, htab, c1, c2⟩ := hC
      refine ⟨g.1, fun H locs LS cells slots hR hS hL hc hs => ?_⟩
      have hsum : (st'.map fun v => v.category).sum ≤ 8 := by
        have : ∀ (xs : List Value), (xs.map fun v => v.category).sum ≤ 2 * xs.length := by
          intro xs
          induction xs with
          | nil => simp
          | cons v vs ih =>
            have : v.category ≤ 2 := by rcases lv_cat v with q | q <;> omega
            simp only [List.map_cons, List.sum_cons, List.length_cons]
            omega
        have := this st'
        omega
      refine W.objInit hx hb hown (mb_tr hW rfl (hX.1 _ hw1)) (mb_tr hW rfl (hX.1 _ hw2)) (mb_tr hW rfl (hX.1 _ hw3)) (g := F0 m pc LS (.ref a :: st')) rfl (by rw [hml]; exact hL.2.1) rfl hd (by omega) ?_ (g.2 H locs LS cells slots hR hS hL hc hs)
      have hmr : (F0 m pc LS (.ref a :: st')).monitorRoom = 0 := rfl
      rw [hmr]
      omega
    · cases h
  · cases h
end MBS
