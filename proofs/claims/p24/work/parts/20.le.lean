/-! more fuel does no harm -/
def mb_Le (i : mb_I) : Prop := ∀ (d : Nat) (call call' : mb_C) (k k' : mb_K) (ls : mb_L) (st : List Value) (σ : mb_S) (r : mb_O × mb_S),
  (∀ y as σ r, call y as σ = some r → call' y as σ = some r) → (∀ pc' ls' st' σ', k pc' ls' st' σ' = some r → k' pc' ls' st' σ' = some r) → i d call k ls st σ = some r → i d call' k' ls st σ = some r
theorem mb_run_le {P : mb_P} {nl : Nat → Nat} (hP : ∀ y pc i, P y pc = some i → mb_Le i) : ∀ (n d y pc : Nat) (ls : mb_L) (st : List Value) (σ : mb_S) (r : mb_O × mb_S), mb_run P nl n d y pc ls st σ = some r → mb_run P nl (n + 1) d y pc ls st σ = some r := by
  intro n
  induction n with
  | zero => intro d y pc ls st σ r h; cases h
  | succ n ih =>
    intro d y pc ls st σ r h
    unfold mb_run at h ⊢
    split at h
    · cases h
    · rename_i i hi
      refine hP y pc i hi _ _ _ _ _ _ _ _ _ (fun y' as σ1 r1 hc => ?_) (fun pc' ls' st' σ' hk => ih d y pc' ls' st' σ' r hk) h
      cases d with
      | zero => cases hc
      | succ d' =>
        dsimp only at hc ⊢
        split at hc
        · rename_i hcc
          rw [if_pos hcc]
          exact ih _ _ _ _ _ _ _ hc
        · cases hc
theorem ml_bk {k k' : mb_K} {nx : Nat} {ls : mb_L} {st : List Value} {x x' : mb_R} {r : mb_O × mb_S} (hx : ∀ q, x = some q → x' = some q) (hk : ∀ pc' ls' st' σ', k pc' ls' st' σ' = some r → k' pc' ls' st' σ' = some r) (h : mb_bk k nx ls st x = some r) : mb_bk k' nx ls st x' = some r := by
  unfold mb_bk at h
  split at h
  · rw [hx _ rfl]; exact hk _ _ _ _ h
  · rw [hx _ rfl]; exact hk _ _ _ _ h
  · cases h
theorem ml_bx {hs : List (Nat × Nat × Nat)} {k k' : mb_K} {nx : Nat} {ls : mb_L} {st : List Value} {x x' : mb_R} {r : mb_O × mb_S} (hx : ∀ q, x = some q → x' = some q) (hk : ∀ pc' ls' st' σ', k pc' ls' st' σ' = some r → k' pc' ls' st' σ' = some r) (h : mb_bx hs k nx ls st x = some r) : mb_bx hs k' nx ls st x' = some r := by
  unfold mb_bx at h
  split at h
  · rw [hx _ rfl]; exact hk _ _ _ _ h
  · rw [hx _ rfl]; exact hk _ _ _ _ h
  · rw [hx _ rfl]
    unfold mb_bx
    dsimp only
    split at h
    · split at h
      · rename_i hil
        rw [if_pos hil]; exact hk _ _ _ _ h
      · cases h
    · cases h
  · cases h
theorem ml_push (v : Value) (nx : Nat) : mb_Le (mi_push v nx) := fun _ _ _ _ _ _ _ _ _ _ hk h => hk _ _ _ _ h
theorem ml_go (t : Nat) : mb_Le (mi_go t) := fun _ _ _ _ _ _ _ _ _ _ hk h => hk _ _ _ _ h
theorem ml_new (ci : Nat) (fs : List Value) (nx : Nat) : mb_Le (mi_new ci fs nx) := fun _ _ _ _ _ _ _ _ _ _ hk h => hk _ _ _ _ h
theorem ml_ild (i : Nat) (nx : Nat) : mb_Le (mi_ild i nx) := by
  intro d call call' k k' ls st σ r hc hk
  unfold mi_ild
  (repeat' (first | split | dsimp only)) <;> first | exact hk _ _ _ _ | exact id
theorem ml_ald (i : Nat) (nx : Nat) : mb_Le (mi_ald i nx) := by
  intro d call call' k k' ls st σ r hc hk
  unfold mi_ald
  (repeat' (first | split | dsimp only)) <;> first | exact hk _ _ _ _ | exact id
theorem ml_ist (i : Nat) (nx : Nat) : mb_Le (mi_ist i nx) := by
  intro d call call' k k' ls st σ r hc hk
  unfold mi_ist
  (repeat' (first | split | dsimp only)) <;> first | exact hk _ _ _ _ | exact id
theorem ml_ast (i : Nat) (nx : Nat) : mb_Le (mi_ast i nx) := by
  intro d call call' k k' ls st σ r hc hk
  unfold mi_ast
  (repeat' (first | split | dsimp only)) <;> first | exact hk _ _ _ _ | exact id
theorem ml_iinc (i : Nat) (n : Int32) (nx : Nat) : mb_Le (mi_iinc i n nx) := by
  intro d call call' k k' ls st σ r hc hk
  unfold mi_iinc
  (repeat' (first | split | dsimp only)) <;> first | exact hk _ _ _ _ | exact id
theorem ml_iadd (nx : Nat) : mb_Le (mi_iadd nx) := by
  intro d call call' k k' ls st σ r hc hk
  unfold mi_iadd
  (repeat' (first | split | dsimp only)) <;> first | exact hk _ _ _ _ | exact id
theorem ml_isub (nx : Nat) : mb_Le (mi_isub nx) := by
  intro d call call' k k' ls st σ r hc hk
  unfold mi_isub
  (repeat' (first | split | dsimp only)) <;> first | exact hk _ _ _ _ | exact id
theorem ml_imul (nx : Nat) : mb_Le (mi_imul nx) := by
  intro d call call' k k' ls st σ r hc hk
  unfold mi_imul
  (repeat' (first | split | dsimp only)) <;> first | exact hk _ _ _ _ | exact id
theorem ml_iand (nx : Nat) : mb_Le (mi_iand nx) := by
  intro d call call' k k' ls st σ r hc hk
  unfold mi_iand
  (repeat' (first | split | dsimp only)) <;> first | exact hk _ _ _ _ | exact id
theorem ml_ixor (nx : Nat) : mb_Le (mi_ixor nx) := by
  intro d call call' k k' ls st σ r hc hk
  unfold mi_ixor
  (repeat' (first | split | dsimp only)) <;> first | exact hk _ _ _ _ | exact id
theorem ml_ineg (nx : Nat) : mb_Le (mi_ineg nx) := by
  intro d call call' k k' ls st σ r hc hk
  unfold mi_ineg
  (repeat' (first | split | dsimp only)) <;> first | exact hk _ _ _ _ | exact id
theorem ml_i2l (nx : Nat) : mb_Le (mi_i2l nx) := by
  intro d call call' k k' ls st σ r hc hk
  unfold mi_i2l
  (repeat' (first | split | dsimp only)) <;> first | exact hk _ _ _ _ | exact id
theorem ml_lcmp (nx : Nat) : mb_Le (mi_lcmp nx) := by
  intro d call call' k k' ls st σ r hc hk
  unfold mi_lcmp
  (repeat' (first | split | dsimp only)) <;> first | exact hk _ _ _ _ | exact id
theorem ml_idiv (nx : Nat) : mb_Le (mi_idiv nx) := by
  intro d call call' k k' ls st σ r hc hk
  unfold mi_idiv
  (repeat' (first | split | dsimp only)) <;> first | exact hk _ _ _ _ | exact id
theorem ml_dup (nx : Nat) : mb_Le (mi_dup nx) := by
  intro d call call' k k' ls st σ r hc hk
  unfold mi_dup
  (repeat' (first | split | dsimp only)) <;> first | exact hk _ _ _ _ | exact id
theorem ml_pop (nx : Nat) : mb_Le (mi_pop nx) := by
  intro d call call' k k' ls st σ r hc hk
  unfold mi_pop
  (repeat' (first | split | dsimp only)) <;> first | exact hk _ _ _ _ | exact id
theorem ml_dup2 (nx : Nat) : mb_Le (mi_dup2 nx) := by
  intro d call call' k k' ls st σ r hc hk
  unfold mi_dup2
  (repeat' (first | split | dsimp only)) <;> first | exact hk _ _ _ _ | exact id
theorem ml_dupx1 (nx : Nat) : mb_Le (mi_dupx1 nx) := by
  intro d call call' k k' ls st σ r hc hk
  unfold mi_dupx1
  (repeat' (first | split | dsimp only)) <;> first | exact hk _ _ _ _ | exact id
theorem ml_alen (nx : Nat) : mb_Le (mi_alen nx) := by
  intro d call call' k k' ls st σ r hc hk
  unfold mi_alen
  (repeat' (first | split | dsimp only)) <;> first | exact hk _ _ _ _ | exact id
theorem ml_newi (nx : Nat) : mb_Le (mi_newi nx) := by
  intro d call call' k k' ls st σ r hc hk
  unfold mi_newi
  (repeat' (first | split | dsimp only)) <;> first | exact hk _ _ _ _ | exact id
theorem ml_newj (nx : Nat) : mb_Le (mi_newj nx) := by
  intro d call call' k k' ls st σ r hc hk
  unfold mi_newj
  (repeat' (first | split | dsimp only)) <;> first | exact hk _ _ _ _ | exact id
theorem ml_newz (nx : Nat) : mb_Le (mi_newz nx) := by
  intro d call call' k k' ls st σ r hc hk
  unfold mi_newz
  (repeat' (first | split | dsimp only)) <;> first | exact hk _ _ _ _ | exact id
theorem ml_newq (ci : Nat) (nx : Nat) : mb_Le (mi_newq ci nx) := by
  intro d call call' k k' ls st σ r hc hk
  unfold mi_newq
  (repeat' (first | split | dsimp only)) <;> first | exact hk _ _ _ _ | exact id
theorem ml_oinit (nx : Nat) : mb_Le (mi_oinit nx) := by
  intro d call call' k k' ls st σ r hc hk
  unfold mi_oinit
  (repeat' (first | split | dsimp only)) <;> first | exact hk _ _ _ _ | exact id
theorem ml_getf (ci : Nat) (kf : Nat) (nx : Nat) : mb_Le (mi_getf ci kf nx) := by
  intro d call call' k k' ls st σ r hc hk
  unfold mi_getf mb_gf
  (repeat' (first | split | dsimp only)) <;> first | exact hk _ _ _ _ | exact id
theorem ml_putf (ci : Nat) (kf : Nat) (z : Nat) (nx : Nat) : mb_Le (mi_putf ci kf z nx) := by
  intro d call call' k k' ls st σ r hc hk
  unfold mi_putf mb_gf
  (repeat' (first | split | dsimp only)) <;> first | exact hk _ _ _ _ | exact id
theorem ml_iald (nx : Nat) : mb_Le (mi_iald nx) := by
  intro d call call' k k' ls st σ r hc hk
  unfold mi_iald mb_gi
  (repeat' (first | split | dsimp only)) <;> first | exact hk _ _ _ _ | exact id
theorem ml_zald (nx : Nat) : mb_Le (mi_zald nx) := by
  intro d call call' k k' ls st σ r hc hk
  unfold mi_zald mb_gi
  (repeat' (first | split | dsimp only)) <;> first | exact hk _ _ _ _ | exact id
theorem ml_lald (nx : Nat) : mb_Le (mi_lald nx) := by
  intro d call call' k k' ls st σ r hc hk
  unfold mi_lald mb_gj
  (repeat' (first | split | dsimp only)) <;> first | exact hk _ _ _ _ | exact id
theorem ml_aald (nx : Nat) : mb_Le (mi_aald nx) := by
  intro d call call' k k' ls st σ r hc hk
  unfold mi_aald mb_gq
  (repeat' (first | split | dsimp only)) <;> first | exact hk _ _ _ _ | exact id
theorem ml_iast (nx : Nat) : mb_Le (mi_iast nx) := by
  intro d call call' k k' ls st σ r hc hk
  unfold mi_iast mb_gi
  (repeat' (first | split | dsimp only)) <;> first | exact hk _ _ _ _ | exact id
theorem ml_zast (nx : Nat) : mb_Le (mi_zast nx) := by
  intro d call call' k k' ls st σ r hc hk
  unfold mi_zast mb_gi
  (repeat' (first | split | dsimp only)) <;> first | exact hk _ _ _ _ | exact id
theorem ml_last (nx : Nat) : mb_Le (mi_last nx) := by
  intro d call call' k k' ls st σ r hc hk
  unfold mi_last mb_gj
  (repeat' (first | split | dsimp only)) <;> first | exact hk _ _ _ _ | exact id
theorem ml_aast (ci : Nat) (nx : Nat) : mb_Le (mi_aast ci nx) := by
  intro d call call' k k' ls st σ r hc hk
  unfold mi_aast mb_gf mb_gq
  (repeat' (first | split | dsimp only)) <;> first | exact hk _ _ _ _ | exact id
theorem ml_if1 (c : Int32 → Bool) (t : Nat) (nx : Nat) : mb_Le (mi_if1 c t nx) := by
  intro d call call' k k' ls st σ r hc hk
  unfold mi_if1
  (repeat' (first | split | dsimp only)) <;> first | exact hk _ _ _ _ | exact id
theorem ml_if2 (c : Int32 → Int32 → Bool) (t : Nat) (nx : Nat) : mb_Le (mi_if2 c t nx) := by
  intro d call call' k k' ls st σ r hc hk
  unfold mi_if2
  (repeat' (first | split | dsimp only)) <;> first | exact hk _ _ _ _ | exact id
theorem ml_ifn (t : Nat) (nx : Nat) : mb_Le (mi_ifn t nx) := by
  intro d call call' k k' ls st σ r hc hk
  unfold mi_ifn
  (repeat' (first | split | dsimp only)) <;> first | exact hk _ _ _ _ | exact id
theorem ml_ifnn (t : Nat) (nx : Nat) : mb_Le (mi_ifnn t nx) := by
  intro d call call' k k' ls st σ r hc hk
  unfold mi_ifnn
  (repeat' (first | split | dsimp only)) <;> first | exact hk _ _ _ _ | exact id
theorem ml_tsw (ts : List Nat) (t : Nat) : mb_Le (mi_tsw ts t) := by
  intro d call call' k k' ls st σ r hc hk
  unfold mi_tsw
  (repeat' (first | split | dsimp only)) <;> first | exact hk _ _ _ _ | exact id
theorem ml_iret  : mb_Le (mi_iret ) := by
  intro d call call' k k' ls st σ r hc hk
  unfold mi_iret
  (repeat' (first | split | dsimp only)) <;> first | exact hk _ _ _ _ | exact id
theorem ml_zret  : mb_Le (mi_zret ) := by
  intro d call call' k k' ls st σ r hc hk
  unfold mi_zret
  (repeat' (first | split | dsimp only)) <;> first | exact hk _ _ _ _ | exact id
theorem ml_aret  : mb_Le (mi_aret ) := by
  intro d call call' k k' ls st σ r hc hk
  unfold mi_aret
  (repeat' (first | split | dsimp only)) <;> first | exact hk _ _ _ _ | exact id
theorem ml_vret  : mb_Le (mi_vret ) := by
  intro d call call' k k' ls st σ r hc hk
  unfold mi_vret
  (repeat' (first | split | dsimp only)) <;> first | exact hk _ _ _ _ | exact id
theorem ml_thr (E : Nat) : mb_Le (mi_thr E) := by
  intro d call call' k k' ls st σ r hc hk
  unfold mi_thr
  (repeat' (first | split | dsimp only)) <;> first | exact hk _ _ _ _ | exact id
theorem ml_callv (y np ci nx : Nat) (hs : List (Nat × Nat × Nat)) : mb_Le (mi_callv y np ci nx hs) := by
  intro d call call' k k' ls st σ r hc hk
  unfold mi_callv mb_gf
  (repeat' (first | split | dsimp only)) <;> first | exact ml_bx (fun q h => hc _ _ _ _ h) hk | exact id
theorem ml_calli (y np nx : Nat) : mb_Le (mi_calli y np nx) := by
  intro d call call' k k' ls st σ r hc hk
  unfold mi_calli
  (repeat' (first | split | dsimp only)) <;> first | exact ml_bk (fun q h => hc _ _ _ _ h) hk | exact id
theorem ml_calls (y np nx : Nat) : mb_Le (mi_calls y np nx) := by
  intro d call call' k k' ls st σ r hc hk
  unfold mi_calls
  (repeat' (first | split | dsimp only)) <;> first | exact ml_bk (fun q h => hc _ _ _ _ h) hk | exact id
theorem ml_irem (nx : Nat) : mb_Le (mi_irem nx) := by
  intro d call call' k k' ls st σ r hc hk
  unfold mi_irem
  (repeat' (first | split | dsimp only)) <;> first | exact hk _ _ _ _ | exact id
theorem ml_ishr (nx : Nat) : mb_Le (mi_ishr nx) := by
  intro d call call' k k' ls st σ r hc hk
  unfold mi_ishr
  (repeat' (first | split | dsimp only)) <;> first | exact hk _ _ _ _ | exact id
theorem ml_bp {k k' : mb_K} {nx : Nat} {ls : mb_L} {st : List Value} {x x' : mb_R} {r : mb_O × mb_S} (hx : ∀ q, x = some q → x' = some q) (hk : ∀ pc' ls' st' σ', k pc' ls' st' σ' = some r → k' pc' ls' st' σ' = some r) (h : mb_bp k nx ls st x = some r) : mb_bp k' nx ls st x' = some r := by
  unfold mb_bp at h
  split at h
  · rw [hx _ rfl]; exact hk _ _ _ _ h
  · rw [hx _ rfl]; exact hk _ _ _ _ h
  · rw [hx _ rfl]; exact h
  · cases h
theorem ml_callvp (y np ci nx : Nat) : mb_Le (mi_callvp y np ci nx) := by
  intro d call call' k k' ls st σ r hc hk
  unfold mi_callvp mb_gf
  (repeat' (first | split | dsimp only)) <;> first | exact ml_bp (fun q h => hc _ _ _ _ h) hk | exact id
theorem ml_callsx (y np nx : Nat) (hs : List (Nat × Nat × Nat)) : mb_Le (mi_callsx y np nx hs) := by
  intro d call call' k k' ls st σ r hc hk
  unfold mi_callsx
  (repeat' (first | split | dsimp only)) <;> first | exact ml_bx (fun q h => hc _ _ _ _ h) hk | exact id
