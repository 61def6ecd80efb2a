/-! every row lets the heap only grow -/
theorem mm_push (v : Value) (nx : Nat) : mb_Mon (mi_push v nx) := fun _ _ _ _ _ _ _ _ hk h => hk _ _ _ _ h
theorem mm_ild (i nx : Nat) : mb_Mon (mi_ild i nx) := by
  intro d call k ls st σ r hc hk h
  unfold mi_ild at h
  split at h
  · have g := hk _ _ _ _ h; exact g
  · cases h
theorem mm_ald (i nx : Nat) : mb_Mon (mi_ald i nx) := by
  intro d call k ls st σ r hc hk h
  unfold mi_ald at h
  split at h
  · have g := hk _ _ _ _ h; exact g
  · have g := hk _ _ _ _ h; exact g
  · cases h
theorem mm_ist (i nx : Nat) : mb_Mon (mi_ist i nx) := by
  intro d call k ls st σ r hc hk h
  unfold mi_ist at h
  split at h
  · split at h
    · have g := hk _ _ _ _ h; exact g
    · cases h
  · cases h
theorem mm_ast (i nx : Nat) : mb_Mon (mi_ast i nx) := by
  intro d call k ls st σ r hc hk h
  unfold mi_ast at h
  split at h
  · split at h
    · have g := hk _ _ _ _ h; exact g
    · cases h
  · split at h
    · have g := hk _ _ _ _ h; exact g
    · cases h
  · cases h
theorem mm_iinc (i : Nat) (n : Int32) (nx : Nat) : mb_Mon (mi_iinc i n nx) := by
  intro d call k ls st σ r hc hk h
  unfold mi_iinc at h
  split at h
  · have g := hk _ _ _ _ h; exact g
  · cases h
theorem mm_iadd (nx : Nat) : mb_Mon (mi_iadd nx) := by
  intro d call k ls st σ r hc hk h
  unfold mi_iadd at h
  split at h
  · have g := hk _ _ _ _ h; exact g
  · cases h
theorem mm_isub (nx : Nat) : mb_Mon (mi_isub nx) := by
  intro d call k ls st σ r hc hk h
  unfold mi_isub at h
  split at h
  · have g := hk _ _ _ _ h; exact g
  · cases h
theorem mm_imul (nx : Nat) : mb_Mon (mi_imul nx) := by
  intro d call k ls st σ r hc hk h
  unfold mi_imul at h
  split at h
  · have g := hk _ _ _ _ h; exact g
  · cases h
theorem mm_iand (nx : Nat) : mb_Mon (mi_iand nx) := by
  intro d call k ls st σ r hc hk h
  unfold mi_iand at h
  split at h
  · have g := hk _ _ _ _ h; exact g
  · cases h
theorem mm_ixor (nx : Nat) : mb_Mon (mi_ixor nx) := by
  intro d call k ls st σ r hc hk h
  unfold mi_ixor at h
  split at h
  · have g := hk _ _ _ _ h; exact g
  · cases h
theorem mm_ineg (nx : Nat) : mb_Mon (mi_ineg nx) := by
  intro d call k ls st σ r hc hk h
  unfold mi_ineg at h
  split at h
  · have g := hk _ _ _ _ h; exact g
  · cases h
theorem mm_i2l (nx : Nat) : mb_Mon (mi_i2l nx) := by
  intro d call k ls st σ r hc hk h
  unfold mi_i2l at h
  split at h
  · have g := hk _ _ _ _ h; exact g
  · cases h
theorem mm_lcmp (nx : Nat) : mb_Mon (mi_lcmp nx) := by
  intro d call k ls st σ r hc hk h
  unfold mi_lcmp at h
  split at h
  · have g := hk _ _ _ _ h; exact g
  · cases h
theorem mm_idiv (nx : Nat) : mb_Mon (mi_idiv nx) := by
  intro d call k ls st σ r hc hk h
  unfold mi_idiv at h
  split at h
  · split at h
    · cases h
    · have g := hk _ _ _ _ h; exact g
  · cases h
theorem mm_dup (nx : Nat) : mb_Mon (mi_dup nx) := by
  intro d call k ls st σ r hc hk h
  unfold mi_dup at h
  split at h
  · split at h
    · have g := hk _ _ _ _ h; exact g
    · cases h
  · cases h
theorem mm_pop (nx : Nat) : mb_Mon (mi_pop nx) := by
  intro d call k ls st σ r hc hk h
  unfold mi_pop at h
  split at h
  · split at h
    · have g := hk _ _ _ _ h; exact g
    · cases h
  · cases h
theorem mm_dup2 (nx : Nat) : mb_Mon (mi_dup2 nx) := by
  intro d call k ls st σ r hc hk h
  unfold mi_dup2 at h
  split at h
  · split at h
    · have g := hk _ _ _ _ h; exact g
    · cases h
  · cases h
theorem mm_dupx1 (nx : Nat) : mb_Mon (mi_dupx1 nx) := by
  intro d call k ls st σ r hc hk h
  unfold mi_dupx1 at h
  split at h
  · split at h
    · have g := hk _ _ _ _ h; exact g
    · cases h
  · cases h
theorem mm_getf (ci kf nx : Nat) : mb_Mon (mi_getf ci kf nx) := by
  intro d call k ls st σ r hc hk h
  unfold mi_getf at h
  split at h
  · unfold mb_gf at h
    split at h
    · split at h
      · have g := hk _ _ _ _ h; exact g
      · cases h
    · cases h
  · cases h
theorem mm_putf (ci kf z nx : Nat) : mb_Mon (mi_putf ci kf z nx) := by
  intro d call k ls st σ r hc hk h
  unfold mi_putf at h
  split at h
  · split at h
    · unfold mb_gf at h
      split at h
      · split at h
        · dsimp only at h
          split at h
          · have g := hk _ _ _ _ h; exact g
          · cases h
        · cases h
      · cases h
    · cases h
  · cases h
theorem mm_iald (nx : Nat) : mb_Mon (mi_iald nx) := by
  intro d call k ls st σ r hc hk h
  unfold mi_iald at h
  split at h
  · unfold mb_gi at h
    split at h
    · split at h
      · cases h
      · dsimp only at h
        split at h
        · have g := hk _ _ _ _ h; exact g
        · cases h
    · cases h
  · cases h
theorem mm_zald (nx : Nat) : mb_Mon (mi_zald nx) := by
  intro d call k ls st σ r hc hk h
  unfold mi_zald at h
  split at h
  · unfold mb_gi at h
    split at h
    · split at h
      · cases h
      · dsimp only at h
        split at h
        · have g := hk _ _ _ _ h; exact g
        · cases h
    · cases h
  · cases h
theorem mm_lald (nx : Nat) : mb_Mon (mi_lald nx) := by
  intro d call k ls st σ r hc hk h
  unfold mi_lald at h
  split at h
  · unfold mb_gj at h
    split at h
    · split at h
      · cases h
      · dsimp only at h
        split at h
        · have g := hk _ _ _ _ h; exact g
        · cases h
    · cases h
  · cases h
theorem mm_aald (nx : Nat) : mb_Mon (mi_aald nx) := by
  intro d call k ls st σ r hc hk h
  unfold mi_aald at h
  split at h
  · unfold mb_gq at h
    split at h
    · split at h
      · cases h
      · dsimp only at h
        split at h
        · have g := hk _ _ _ _ h; exact g
        · cases h
    · cases h
  · cases h
theorem mm_iast (nx : Nat) : mb_Mon (mi_iast nx) := by
  intro d call k ls st σ r hc hk h
  unfold mi_iast at h
  split at h
  · unfold mb_gi at h
    split at h
    · split at h
      · cases h
      · dsimp only at h
        split at h
        · have g := hk _ _ _ _ h; exact g
        · cases h
    · cases h
  · cases h
theorem mm_zast (nx : Nat) : mb_Mon (mi_zast nx) := by
  intro d call k ls st σ r hc hk h
  unfold mi_zast at h
  split at h
  · unfold mb_gi at h
    split at h
    · split at h
      · cases h
      · dsimp only at h
        split at h
        · have g := hk _ _ _ _ h; exact g
        · cases h
    · cases h
  · cases h
theorem mm_last (nx : Nat) : mb_Mon (mi_last nx) := by
  intro d call k ls st σ r hc hk h
  unfold mi_last at h
  split at h
  · unfold mb_gj at h
    split at h
    · split at h
      · cases h
      · dsimp only at h
        split at h
        · have g := hk _ _ _ _ h; exact g
        · cases h
    · cases h
  · cases h
theorem mm_aast (ci nx : Nat) : mb_Mon (mi_aast ci nx) := by
  intro d call k ls st σ r hc hk h
  unfold mi_aast at h
  split at h
  · unfold mb_gf at h
    split at h
    · split at h
      · dsimp only at h
        unfold mb_gq at h
        split at h
        · split at h
          · cases h
          · dsimp only at h
            split at h
            · have g := hk _ _ _ _ h; exact g
            · cases h
        · cases h
      · cases h
    · cases h
  · cases h
theorem mm_alen (nx : Nat) : mb_Mon (mi_alen nx) := by
  intro d call k ls st σ r hc hk h
  unfold mi_alen at h
  split at h
  · split at h
    · split at h
      · have g := hk _ _ _ _ h; exact g
      · cases h
    · cases h
  · cases h
theorem mm_if1 (c : Int32 → Bool) (t nx : Nat) : mb_Mon (mi_if1 c t nx) := by
  intro d call k ls st σ r hc hk h
  unfold mi_if1 at h
  split at h
  · split at h
    · have g := hk _ _ _ _ h; exact g
    · have g := hk _ _ _ _ h; exact g
  · cases h
theorem mm_if2 (c : Int32 → Int32 → Bool) (t nx : Nat) : mb_Mon (mi_if2 c t nx) := by
  intro d call k ls st σ r hc hk h
  unfold mi_if2 at h
  split at h
  · split at h
    · have g := hk _ _ _ _ h; exact g
    · have g := hk _ _ _ _ h; exact g
  · cases h
theorem mm_ifn (t nx : Nat) : mb_Mon (mi_ifn t nx) := by
  intro d call k ls st σ r hc hk h
  unfold mi_ifn at h
  split at h
  · have g := hk _ _ _ _ h; exact g
  · have g := hk _ _ _ _ h; exact g
  · cases h
theorem mm_ifnn (t nx : Nat) : mb_Mon (mi_ifnn t nx) := by
  intro d call k ls st σ r hc hk h
  unfold mi_ifnn at h
  split at h
  · have g := hk _ _ _ _ h; exact g
  · have g := hk _ _ _ _ h; exact g
  · cases h
theorem mm_go (t : Nat) : mb_Mon (mi_go t) := fun _ _ _ _ _ _ _ _ hk h => hk _ _ _ _ h
theorem mm_tsw (ts : List Nat) (t : Nat) : mb_Mon (mi_tsw ts t) := by
  intro d call k ls st σ r hc hk h
  unfold mi_tsw at h
  split at h
  · split at h
    · have g := hk _ _ _ _ h; exact g
    · split at h
      · have g := hk _ _ _ _ h; exact g
      · have g := hk _ _ _ _ h; exact g
  · cases h
theorem mm_callv (y np ci nx : Nat) (hs : List (Nat × Nat × Nat)) : mb_Mon (mi_callv y np ci nx hs) := by
  intro d call k ls st σ r hc hk h
  unfold mi_callv at h
  split at h
  · split at h
    · unfold mb_gf at h
      split at h
      · split at h
        · dsimp only at h
          unfold mb_bx at h
          split at h
          · rename_i he
            have g := hc _ _ _ _ _ he
            have g2 := hk _ _ _ _ h
            exact ⟨Nat.le_trans g.1 g2.1, Nat.le_trans g.2 g2.2⟩
          · rename_i he
            have g := hc _ _ _ _ _ he
            have g2 := hk _ _ _ _ h
            exact ⟨Nat.le_trans g.1 g2.1, Nat.le_trans g.2 g2.2⟩
          · rename_i he
            have g := hc _ _ _ _ _ he
            split at h
            · split at h
              · have g2 := hk _ _ _ _ h
                exact ⟨Nat.le_trans g.1 g2.1, Nat.le_trans g.2 g2.2⟩
              · cases h
            · cases h
          · cases h
        · cases h
      · cases h
    · cases h
  · cases h
theorem mm_bk {k : mb_K} {nx : Nat} {ls : mb_L} {st : List Value} {σ : mb_S} {x : mb_R} {r : mb_O × mb_S} (hc : ∀ (o : mb_O) (σ' : mb_S), x = some (o, σ') → σ.2.1 ≤ σ'.2.1 ∧ σ.2.2 ≤ σ'.2.2) (hk : ∀ (pc' : Nat) (ls' : mb_L) (st' : List Value) (σ' : mb_S), k pc' ls' st' σ' = some r → σ'.2.1 ≤ r.2.2.1 ∧ σ'.2.2 ≤ r.2.2.2) (h : mb_bk k nx ls st x = some r) : σ.2.1 ≤ r.2.2.1 ∧ σ.2.2 ≤ r.2.2.2 := by
  unfold mb_bk at h
  split at h
  · have g := hc _ _ rfl
    have g2 := hk _ _ _ _ h
    exact ⟨Nat.le_trans g.1 g2.1, Nat.le_trans g.2 g2.2⟩
  · have g := hc _ _ rfl
    have g2 := hk _ _ _ _ h
    exact ⟨Nat.le_trans g.1 g2.1, Nat.le_trans g.2 g2.2⟩
  · cases h
theorem mm_calli (y np nx : Nat) : mb_Mon (mi_calli y np nx) := by
  intro d call k ls st σ r hc hk h
  unfold mi_calli at h
  split at h
  · split at h
    · exact mm_bk (fun o σ' he => hc _ _ _ _ _ he) hk h
    · cases h
  · cases h
theorem mm_calls (y np nx : Nat) : mb_Mon (mi_calls y np nx) := by
  intro d call k ls st σ r hc hk h
  unfold mi_calls at h
  split at h
  · exact mm_bk (fun o σ' he => hc _ _ _ _ _ he) hk h
  · cases h
theorem mm_new (ci : Nat) (fs : List Value) (nx : Nat) : mb_Mon (mi_new ci fs nx) := by
  intro d call k ls st σ r hc hk h
  have g := hk _ _ _ _ h
  exact ⟨Nat.le_trans (Nat.le_succ _) g.1, Nat.le_trans (Nat.le_add_right _ _) g.2⟩
theorem mm_newi (nx : Nat) : mb_Mon (mi_newi nx) := by
  intro d call k ls st σ r hc hk h
  unfold mi_newi at h
  split at h
  · split at h
    · cases h
    · have g := hk _ _ _ _ h
      exact ⟨Nat.le_trans (Nat.le_succ _) g.1, Nat.le_trans (Nat.le_add_right _ _) g.2⟩
  · cases h
theorem mm_newj (nx : Nat) : mb_Mon (mi_newj nx) := by
  intro d call k ls st σ r hc hk h
  unfold mi_newj at h
  split at h
  · split at h
    · cases h
    · have g := hk _ _ _ _ h
      exact ⟨Nat.le_trans (Nat.le_succ _) g.1, Nat.le_trans (Nat.le_add_right _ _) g.2⟩
  · cases h
theorem mm_newz (nx : Nat) : mb_Mon (mi_newz nx) := by
  intro d call k ls st σ r hc hk h
  unfold mi_newz at h
  split at h
  · split at h
    · cases h
    · have g := hk _ _ _ _ h
      exact ⟨Nat.le_trans (Nat.le_succ _) g.1, Nat.le_trans (Nat.le_add_right _ _) g.2⟩
  · cases h
theorem mm_newq (ci nx : Nat) : mb_Mon (mi_newq ci nx) := by
  intro d call k ls st σ r hc hk h
  unfold mi_newq at h
  split at h
  · split at h
    · cases h
    · have g := hk _ _ _ _ h
      exact ⟨Nat.le_trans (Nat.le_succ _) g.1, Nat.le_trans (Nat.le_add_right _ _) g.2⟩
  · cases h
theorem mm_oinit (nx : Nat) : mb_Mon (mi_oinit nx) := by
  intro d call k ls st σ r hc hk h
  unfold mi_oinit at h
  split at h
  · split at h
    · have g := hk _ _ _ _ h; exact g
    · cases h
  · cases h
theorem mm_iret : mb_Mon mi_iret := by
  intro d call k ls st σ r hc hk h
  unfold mi_iret at h
  split at h
  · cases h
    exact ⟨Nat.le_refl _, Nat.le_refl _⟩
  · cases h
theorem mm_zret : mb_Mon mi_zret := by
  intro d call k ls st σ r hc hk h
  unfold mi_zret at h
  split at h
  · split at h
    · cases h
      exact ⟨Nat.le_refl _, Nat.le_refl _⟩
    · cases h
  · cases h
theorem mm_aret : mb_Mon mi_aret := by
  intro d call k ls st σ r hc hk h
  unfold mi_aret at h
  split at h
  · cases h
    exact ⟨Nat.le_refl _, Nat.le_refl _⟩
  · cases h
    exact ⟨Nat.le_refl _, Nat.le_refl _⟩
  · cases h
theorem mm_vret : mb_Mon mi_vret := by
  intro d call k ls st σ r hc hk h
  unfold mi_vret at h
  split at h
  · cases h
    exact ⟨Nat.le_refl _, Nat.le_refl _⟩
  · cases h
theorem mm_thr (E : Nat) : mb_Mon (mi_thr E) := by
  intro d call k ls st σ r hc hk h
  unfold mi_thr at h
  split at h
  · split at h
    · cases h
      exact ⟨Nat.le_succ _, Nat.le_add_right _ _⟩
    · cases h
  · cases h
/-! code as lists of rows -/
def mb_look : List (Nat × mb_I) → Nat → Option mb_I
  | [], _ => none
  | (a, i) :: l, pc => bif Nat.beq a pc then some i else mb_look l pc
theorem mb_l_nil {R : Nat → mb_I → Prop} : ∀ pc i, mb_look [] pc = some i → R pc i := fun _ _ h => nomatch h
theorem mb_l_cons {R : Nat → mb_I → Prop} {a : Nat} {i0 : mb_I} {l : List (Nat × mb_I)} (h0 : R a i0) (h : ∀ pc i, mb_look l pc = some i → R pc i) : ∀ pc i, mb_look ((a, i0) :: l) pc = some i → R pc i := by
  intro pc i hi
  unfold mb_look at hi
  cases hb : Nat.beq a pc with
  | true =>
    rw [hb] at hi
    cases hi
    rw [← Nat.eq_of_beq_eq_true hb]
    exact h0
  | false =>
    rw [hb] at hi
    exact h pc i hi
theorem mm_irem (nx : Nat) : mb_Mon (mi_irem nx) := by
  intro d call k ls st σ r hc hk h
  unfold mi_irem at h
  split at h
  · split at h
    · cases h
    · have g := hk _ _ _ _ h; exact g
  · cases h
theorem mm_ishr (nx : Nat) : mb_Mon (mi_ishr nx) := by
  intro d call k ls st σ r hc hk h
  unfold mi_ishr at h
  split at h
  · have g := hk _ _ _ _ h; exact g
  · cases h
theorem mm_callvp (y np ci nx : Nat) : mb_Mon (mi_callvp y np ci nx) := by
  intro d call k ls st σ r hc hk h
  unfold mi_callvp at h
  split at h
  · split at h
    · unfold mb_gf at h
      split at h
      · split at h
        · dsimp only at h
          unfold mb_bp at h
          split at h
          · rename_i he
            have g := hc _ _ _ _ _ he
            have g2 := hk _ _ _ _ h
            exact ⟨Nat.le_trans g.1 g2.1, Nat.le_trans g.2 g2.2⟩
          · rename_i he
            have g := hc _ _ _ _ _ he
            have g2 := hk _ _ _ _ h
            exact ⟨Nat.le_trans g.1 g2.1, Nat.le_trans g.2 g2.2⟩
          · rename_i he
            have g := hc _ _ _ _ _ he
            cases h
            exact g
          · cases h
        · cases h
      · cases h
    · cases h
  · cases h
theorem mm_callsx (y np nx : Nat) (hs : List (Nat × Nat × Nat)) : mb_Mon (mi_callsx y np nx hs) := by
  intro d call k ls st σ r hc hk h
  unfold mi_callsx at h
  split at h
  · unfold mb_bx at h
    split at h
    · rename_i he
      have g := hc _ _ _ _ _ he
      have g2 := hk _ _ _ _ h
      exact ⟨Nat.le_trans g.1 g2.1, Nat.le_trans g.2 g2.2⟩
    · rename_i he
      have g := hc _ _ _ _ _ he
      have g2 := hk _ _ _ _ h
      exact ⟨Nat.le_trans g.1 g2.1, Nat.le_trans g.2 g2.2⟩
    · rename_i he
      have g := hc _ _ _ _ _ he
      split at h
      · split at h
        · have g2 := hk _ _ _ _ h
          exact ⟨Nat.le_trans g.1 g2.1, Nat.le_trans g.2 g2.2⟩
        · cases h
      · cases h
    · cases h
  · cases h
