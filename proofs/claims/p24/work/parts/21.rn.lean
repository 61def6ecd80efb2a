/-! WALKS OF THE SMALL MACHINE as propositions: mb_Rn (from a pc), mb_Ex (a call) -/
def mb_Ok (f : Nat → mb_R) (Q : mb_O → mb_S → Prop) : Prop := ∃ (n : Nat) (o : mb_O) (σ' : mb_S), f n = some (o, σ') ∧ Q o σ'
def mb_Rn (d y pc : Nat) (ls : mb_L) (st : List Value) (σ : mb_S) (Q : mb_O → mb_S → Prop) : Prop := mb_Ok (fun n => mb_run mb_prog mb_nl n d y pc ls st σ) Q
def mb_Ex (d y : Nat) (as : List Value) (σ : mb_S) (Q : mb_O → mb_S → Prop) : Prop := mb_Rn d y 0 (mb_ent (mb_nl y) as) [] σ Q
def mb_cf (n d : Nat) : mb_C := fun y' as σ' => match d with
  | 0 => none
  | d' + 1 => if as.length ≤ mb_nl y' ∧ mb_c1 as = true then mb_run mb_prog mb_nl n d' y' 0 (mb_ent (mb_nl y') as) [] σ' else none
def mb_qk (d y nx : Nat) (ls : mb_L) (st : List Value) (Q : mb_O → mb_S → Prop) : mb_O → mb_S → Prop := fun o σ' => match o with
  | .inl none => mb_Rn d y nx ls st σ' Q
  | .inl (some v) => mb_Rn d y nx ls (v :: st) σ' Q
  | .inr _ => False
def mb_qx (hs : List (Nat × Nat × Nat)) (d y nx : Nat) (ls : mb_L) (st : List Value) (Q : mb_O → mb_S → Prop) : mb_O → mb_S → Prop := fun o σ' => match o with
  | .inl none => mb_Rn d y nx ls st σ' Q
  | .inl (some v) => mb_Rn d y nx ls (v :: st) σ' Q
  | .inr E => match hs.lookup E with
    | some (t, i) => if i < ls.length then mb_Rn d y t (ls.set i none) [] σ' Q else False
    | none => False
def mb_qp (d y nx : Nat) (ls : mb_L) (st : List Value) (Q : mb_O → mb_S → Prop) : mb_O → mb_S → Prop := fun o σ' => match o with
  | .inl none => mb_Rn d y nx ls st σ' Q
  | .inl (some v) => mb_Rn d y nx ls (v :: st) σ' Q
  | .inr E => Q (.inr E) σ'
section MBO
variable {d y pc nx t : Nat} {ls ls' : mb_L} {st st' : List Value} {σ σ' : mb_S} {Q : mb_O → mb_S → Prop} {i : mb_I}
theorem ok_none : mb_Ok (fun _ => none) Q = False := propext ⟨fun ⟨_, _, _, h, _⟩ => (nomatch h), False.elim⟩
theorem ok_some {o : mb_O} : mb_Ok (fun _ => some (o, σ)) Q = Q o σ := propext ⟨fun ⟨_, _, _, h, q⟩ => by cases h; exact q, fun q => ⟨0, _, _, rfl, q⟩⟩
theorem ok_ite {c : Prop} [Decidable c] {f g : Nat → mb_R} : mb_Ok (fun n => if c then f n else g n) Q = if c then mb_Ok f Q else mb_Ok g Q := by
  by_cases h : c
  · simp only [if_pos h]
  · simp only [if_neg h]
theorem ok_gf {a ci : Nat} {f : Nat → List Value → mb_R} : mb_Ok (fun n => mb_gf σ a ci none (f n)) Q = mb_gf σ a ci False (fun fs => mb_Ok (fun n => f n fs) Q) := by
  unfold mb_gf
  cases σ.1 a with
  | none => exact ok_none
  | some e => cases e with
    | inl x => exact ok_none
    | inr x =>
      by_cases h : x.1 = ci
      · simp only [if_pos h]
      · simp only [if_neg h]; exact ok_none
theorem ok_gi {a : Nat} {j : Int32} {f : Nat → Nat → Nat → (Nat → Int32) → mb_R} : mb_Ok (fun n => mb_gi σ a j none (f n)) Q = mb_gi σ a j False (fun kd l g => mb_Ok (fun n => f n kd l g) Q) := by
  unfold mb_gi
  cases σ.1 a with
  | none => exact ok_none
  | some e => cases e with
    | inr x => exact ok_none
    | inl x =>
      obtain ⟨kd, l, g | g⟩ := x
      · by_cases h : j < 0 ∨ l ≤ j.toNatClampNeg
        · simp only [if_pos h]; exact ok_none
        · simp only [if_neg h]
      · exact ok_none
theorem ok_gj {a : Nat} {j : Int32} {f : Nat → Nat → Nat → (Nat → Int64) → mb_R} : mb_Ok (fun n => mb_gj σ a j none (f n)) Q = mb_gj σ a j False (fun kd l g => mb_Ok (fun n => f n kd l g) Q) := by
  unfold mb_gj
  cases σ.1 a with
  | none => exact ok_none
  | some e => cases e with
    | inr x => exact ok_none
    | inl x =>
      obtain ⟨kd, l, g | g | g⟩ := x
      · exact ok_none
      · by_cases h : j < 0 ∨ l ≤ j.toNatClampNeg
        · simp only [if_pos h]; exact ok_none
        · simp only [if_neg h]
      · exact ok_none
theorem ok_gq {a : Nat} {j : Int32} {f : Nat → Nat → Nat → (Nat → Option Nat) → mb_R} : mb_Ok (fun n => mb_gq σ a j none (f n)) Q = mb_gq σ a j False (fun kd l g => mb_Ok (fun n => f n kd l g) Q) := by
  unfold mb_gq
  cases σ.1 a with
  | none => exact ok_none
  | some e => cases e with
    | inr x => exact ok_none
    | inl x =>
      obtain ⟨kd, l, g | g | g | g | g⟩ := x
      · exact ok_none
      · exact ok_none
      · exact ok_none
      · exact ok_none
      · by_cases h : j < 0 ∨ l ≤ j.toNatClampNeg
        · simp only [if_pos h]; exact ok_none
        · simp only [if_neg h]
theorem rn_row (hP : mb_prog y pc = some i) : mb_Rn d y pc ls st σ Q = mb_Ok (fun n => i d (mb_cf n d) (mb_run mb_prog mb_nl n d y) ls st σ) Q := by
  have e : ∀ n, mb_run mb_prog mb_nl (n + 1) d y pc ls st σ = i d (mb_cf n d) (mb_run mb_prog mb_nl n d y) ls st σ := fun n => by
    show (match mb_prog y pc with
      | none => none
      | some i => _) = _
    rw [hP]
    rfl
  refine propext ⟨fun ⟨n, o, σ1, h, q⟩ => ?_, fun ⟨n, o, σ1, h, q⟩ => ⟨n + 1, o, σ1, (e n).trans h, q⟩⟩
  cases n with
  | zero => cases h
  | succ n => exact ⟨n, o, σ1, (e n).symm.trans h, q⟩
theorem rn_step (hP : mb_prog y pc = some i) (hi : ∀ call k, i d call k ls st σ = k nx ls' st' σ') : mb_Rn d y pc ls st σ Q = mb_Rn d y nx ls' st' σ' Q :=
  (rn_row hP).trans (congrArg (fun f => mb_Ok f Q) (funext fun n => hi _ _))
theorem rn_none (hP : mb_prog y pc = some i) (hi : ∀ call k, i d call k ls st σ = none) : mb_Rn d y pc ls st σ Q = False :=
  (rn_row hP).trans ((congrArg (fun f => mb_Ok f Q) (funext fun n => hi _ _)).trans ok_none)
theorem rn_end {o : mb_O} (hP : mb_prog y pc = some i) (hi : ∀ call k, i d call k ls st σ = some (o, σ')) : mb_Rn d y pc ls st σ Q = Q o σ' :=
  (rn_row hP).trans ((congrArg (fun f => mb_Ok f Q) (funext fun n => hi _ _)).trans ok_some)
theorem rn_ifb {b : Bool} {c : Prop} [Decidable c] (hP : mb_prog y pc = some i) (hi : ∀ call k, i d call k ls st σ = if b = true then k t ls' st' σ' else k nx ls' st' σ') (hc : b = true ↔ c) : mb_Rn d y pc ls st σ Q = if c then mb_Rn d y t ls' st' σ' Q else mb_Rn d y nx ls' st' σ' Q := by
  refine (rn_row hP).trans ((congrArg (fun f => mb_Ok f Q) (funext fun n => hi _ _)).trans ?_)
  by_cases h : c
  · simp only [if_pos h, if_pos (hc.mpr h)]; rfl
  · simp only [if_neg h, if_neg (fun q => h (hc.mp q))]; rfl
theorem rn_ifn {b : Bool} {c : Prop} [Decidable c] (hP : mb_prog y pc = some i) (hi : ∀ call k, i d call k ls st σ = if b = true then k t ls' st' σ' else k nx ls' st' σ') (hc : b = true ↔ ¬ c) : mb_Rn d y pc ls st σ Q = if c then mb_Rn d y nx ls' st' σ' Q else mb_Rn d y t ls' st' σ' Q := by
  rw [rn_ifb hP hi hc]
  by_cases h : c
  · rw [if_pos h, if_neg (fun q => q h)]
  · rw [if_neg h, if_pos h]
theorem rn_ite {c : Prop} [Decidable c] {f g : mb_K → mb_R} {F G : Prop} (hP : mb_prog y pc = some i) (hi : ∀ call k, i d call k ls st σ = if c then f k else g k) (hf : mb_Ok (fun n => f (mb_run mb_prog mb_nl n d y)) Q = F) (hg : mb_Ok (fun n => g (mb_run mb_prog mb_nl n d y)) Q = G) : mb_Rn d y pc ls st σ Q = if c then F else G := by
  rw [← hf, ← hg]
  exact (rn_row hP).trans ((congrArg (fun f => mb_Ok f Q) (funext fun n => hi _ _)).trans ok_ite)
theorem rn_getf {a ci kf : Nat} {st : List Value} (hP : mb_prog y pc = some (mi_getf ci kf nx)) : mb_Rn d y pc ls (.ref a :: st) σ Q = mb_gf σ a ci False (fun fs => mb_Rn d y nx ls (fs.getD kf .null :: st) σ Q) := (rn_row hP).trans ok_gf
theorem rn_putf {a ci kf z : Nat} {v : Value} {st : List Value} (hz : mb_fit z v = true) (hP : mb_prog y pc = some (mi_putf ci kf z nx)) : mb_Rn d y pc ls (v :: .ref a :: st) σ Q = mb_gf σ a ci False (fun fs => if kf < fs.length then mb_Rn d y nx ls st (mb_up σ a (.inr (ci, fs.set kf v))) Q else False) := by
  rw [rn_row hP]
  simp only [mi_putf, hz, if_true]
  rw [ok_gf]
  congr 1
  funext fs
  rw [ok_ite, ok_none]
  rfl
theorem rn_iald {a : Nat} {j : Int32} {st : List Value} (hP : mb_prog y pc = some (mi_iald nx)) : mb_Rn d y pc ls (.int j :: .ref a :: st) σ Q = mb_gi σ a j False (fun kd _ f => if kd = 0 ∨ kd = 9 then mb_Rn d y nx ls (.int (f j.toNatClampNeg) :: st) σ Q else False) := by
  rw [rn_row hP]
  refine ok_gi.trans ?_
  congr 1
  funext kd n f
  rw [ok_ite, ok_none]
  rfl
theorem rn_zald {a : Nat} {j : Int32} {st : List Value} (hP : mb_prog y pc = some (mi_zald nx)) : mb_Rn d y pc ls (.int j :: .ref a :: st) σ Q = mb_gi σ a j False (fun kd _ f => if kd = 2 then mb_Rn d y nx ls (.int (f j.toNatClampNeg) :: st) σ Q else False) := by
  rw [rn_row hP]
  refine ok_gi.trans ?_
  congr 1
  funext kd n f
  rw [ok_ite, ok_none]
  rfl
theorem rn_lald {a : Nat} {j : Int32} {st : List Value} (hP : mb_prog y pc = some (mi_lald nx)) : mb_Rn d y pc ls (.int j :: .ref a :: st) σ Q = mb_gj σ a j False (fun kd _ f => if kd = 1 then mb_Rn d y nx ls (.long (f j.toNatClampNeg) :: st) σ Q else False) := by
  rw [rn_row hP]
  refine ok_gj.trans ?_
  congr 1
  funext kd n f
  rw [ok_ite, ok_none]
  rfl
theorem rn_aald {a : Nat} {j : Int32} {st : List Value} (hP : mb_prog y pc = some (mi_aald nx)) : mb_Rn d y pc ls (.int j :: .ref a :: st) σ Q = mb_gq σ a j False (fun kd _ f => if 10 ≤ kd ∧ kd < 19 then mb_Rn d y nx ls (va_rf (f j.toNatClampNeg) :: st) σ Q else False) := by
  rw [rn_row hP]
  refine ok_gq.trans ?_
  congr 1
  funext kd n f
  rw [ok_ite, ok_none]
  rfl
theorem rn_iast {a : Nat} {j x : Int32} {st : List Value} (hP : mb_prog y pc = some (mi_iast nx)) : mb_Rn d y pc ls (.int x :: .int j :: .ref a :: st) σ Q = mb_gi σ a j False (fun kd n f => if kd = 0 then mb_Rn d y nx ls st (mb_up σ a (.inl (0, n, .inl (upd f j.toNatClampNeg x)))) Q else False) := by
  rw [rn_row hP]
  refine ok_gi.trans ?_
  congr 1
  funext kd n f
  rw [ok_ite, ok_none]
  rfl
theorem rn_zast {a : Nat} {j x : Int32} {st : List Value} (hP : mb_prog y pc = some (mi_zast nx)) : mb_Rn d y pc ls (.int x :: .int j :: .ref a :: st) σ Q = mb_gi σ a j False (fun kd n f => if kd = 2 ∧ (x = 0 ∨ x = 1) then mb_Rn d y nx ls st (mb_up σ a (.inl (2, n, .inl (upd f j.toNatClampNeg x)))) Q else False) := by
  rw [rn_row hP]
  refine ok_gi.trans ?_
  congr 1
  funext kd n f
  rw [ok_ite, ok_none]
  rfl
theorem rn_last {a : Nat} {j : Int32} {x : Int64} {st : List Value} (hP : mb_prog y pc = some (mi_last nx)) : mb_Rn d y pc ls (.long x :: .int j :: .ref a :: st) σ Q = mb_gj σ a j False (fun kd n f => if kd = 1 then mb_Rn d y nx ls st (mb_up σ a (.inl (1, n, .inr (.inl (vp_updL f j.toNatClampNeg x))))) Q else False) := by
  rw [rn_row hP]
  refine ok_gj.trans ?_
  congr 1
  funext kd n f
  rw [ok_ite, ok_none]
  rfl
theorem rn_aast {a ci v : Nat} {j : Int32} {st : List Value} (hP : mb_prog y pc = some (mi_aast ci nx)) : mb_Rn d y pc ls (.ref v :: .int j :: .ref a :: st) σ Q = mb_gf σ v ci False (fun _ => mb_gq σ a j False (fun kd n f => if kd = 10 + ci then mb_Rn d y nx ls st (mb_up σ a (.inl (10 + ci, n, .inr (.inr (.inr (.inr (va_up f j.toNatClampNeg (some v)))))))) Q else False)) := by
  rw [rn_row hP]
  refine ok_gf.trans ?_
  congr 1
  funext fs
  refine ok_gq.trans ?_
  congr 1
  funext kd n f
  rw [ok_ite, ok_none]
  rfl
end MBO
-- calls
theorem mb_Pall : (∀ y pc i, mb_prog y pc = some i → mb_Mon i ∧ mb_Le i) → ∀ (n d y pc : Nat) (ls : mb_L) (st : List Value) (σ : mb_S) (r : mb_O × mb_S), mb_run mb_prog mb_nl n d y pc ls st σ = some r → ∀ m, n ≤ m → mb_run mb_prog mb_nl m d y pc ls st σ = some r := by
  intro hP n d y pc ls st σ r h m hm
  obtain ⟨j, rfl⟩ := Nat.exists_eq_add_of_le hm
  clear hm
  induction j with
  | zero => exact h
  | succ j ih => exact mb_run_le (fun y pc i q => (hP y pc i q).2) _ _ _ _ _ _ _ _ ih
def mb_Good : Prop := ∀ y pc i, mb_prog y pc = some i → mb_Mon i ∧ mb_Le i
section MBO2
variable {d y pc nx t : Nat} {ls ls' : mb_L} {st st' : List Value} {σ σ' : mb_S} {Q : mb_O → mb_S → Prop} {i : mb_I}
theorem cf_run {n y' : Nat} {as : List Value} (hd : 1 ≤ d) (hl : as.length ≤ mb_nl y' ∧ mb_c1 as = true) : mb_cf n d y' as σ = mb_run mb_prog mb_nl n (d - 1) y' 0 (mb_ent (mb_nl y') as) [] σ := by
  obtain ⟨d', rfl⟩ := Nat.exists_eq_add_of_le hd
  rw [Nat.add_comm]
  show (if _ then _ else _) = _
  rw [if_pos hl]
  rfl
theorem ok_bk (hG : mb_Good) {y' : Nat} {as rest : List Value} (hd : 1 ≤ d) (hl : as.length ≤ mb_nl y' ∧ mb_c1 as = true) : mb_Ok (fun n => mb_bk (mb_run mb_prog mb_nl n d y) nx ls rest (mb_cf n d y' as σ)) Q = mb_Ex (d - 1) y' as σ (mb_qk d y nx ls rest Q) := by
  refine propext ⟨fun ⟨n, o, σ1, h, q⟩ => ?_, fun ⟨n, o, σ1, h, q⟩ => ?_⟩
  · dsimp only at h
    rw [cf_run hd hl] at h
    unfold mb_bk at h
    split at h
    · rename_i σ2 he
      exact ⟨n, _, _, he, n, o, σ1, h, q⟩
    · rename_i v σ2 he
      exact ⟨n, _, _, he, n, o, σ1, h, q⟩
    · cases h
  · unfold mb_qk at q
    split at q
    · obtain ⟨m, o2, σ2, h2, q2⟩ := q
      refine ⟨n + m, o2, σ2, ?_, q2⟩
      dsimp only at h h2 ⊢
      rw [cf_run hd hl, mb_Pall hG _ _ _ _ _ _ _ _ h (n + m) (Nat.le_add_right _ _)]
      exact mb_Pall hG _ _ _ _ _ _ _ _ h2 (n + m) (Nat.le_add_left _ _)
    · obtain ⟨m, o2, σ2, h2, q2⟩ := q
      refine ⟨n + m, o2, σ2, ?_, q2⟩
      dsimp only at h h2 ⊢
      rw [cf_run hd hl, mb_Pall hG _ _ _ _ _ _ _ _ h (n + m) (Nat.le_add_right _ _)]
      exact mb_Pall hG _ _ _ _ _ _ _ _ h2 (n + m) (Nat.le_add_left _ _)
    · exact q.elim
theorem ok_bp (hG : mb_Good) {y' : Nat} {as rest : List Value} (hd : 1 ≤ d) (hl : as.length ≤ mb_nl y' ∧ mb_c1 as = true) : mb_Ok (fun n => mb_bp (mb_run mb_prog mb_nl n d y) nx ls rest (mb_cf n d y' as σ)) Q = mb_Ex (d - 1) y' as σ (mb_qp d y nx ls rest Q) := by
  refine propext ⟨fun ⟨n, o, σ1, h, q⟩ => ?_, fun ⟨n, o, σ1, h, q⟩ => ?_⟩
  · dsimp only at h
    rw [cf_run hd hl] at h
    unfold mb_bp at h
    split at h
    · rename_i σ2 he
      exact ⟨n, _, _, he, n, o, σ1, h, q⟩
    · rename_i v σ2 he
      exact ⟨n, _, _, he, n, o, σ1, h, q⟩
    · rename_i E σ2 he
      cases h
      exact ⟨n, _, _, he, q⟩
    · cases h
  · unfold mb_qp at q
    split at q
    · obtain ⟨m, o2, σ2, h2, q2⟩ := q
      refine ⟨n + m, o2, σ2, ?_, q2⟩
      dsimp only at h h2 ⊢
      rw [cf_run hd hl, mb_Pall hG _ _ _ _ _ _ _ _ h (n + m) (Nat.le_add_right _ _)]
      exact mb_Pall hG _ _ _ _ _ _ _ _ h2 (n + m) (Nat.le_add_left _ _)
    · obtain ⟨m, o2, σ2, h2, q2⟩ := q
      refine ⟨n + m, o2, σ2, ?_, q2⟩
      dsimp only at h h2 ⊢
      rw [cf_run hd hl, mb_Pall hG _ _ _ _ _ _ _ _ h (n + m) (Nat.le_add_right _ _)]
      exact mb_Pall hG _ _ _ _ _ _ _ _ h2 (n + m) (Nat.le_add_left _ _)
    · refine ⟨n, _, _, ?_, q⟩
      dsimp only at h ⊢
      rw [cf_run hd hl, h]
      rfl
theorem ok_bx (hG : mb_Good) {hs : List (Nat × Nat × Nat)} {y' : Nat} {as rest : List Value} (hd : 1 ≤ d) (hl : as.length ≤ mb_nl y' ∧ mb_c1 as = true) : mb_Ok (fun n => mb_bx hs (mb_run mb_prog mb_nl n d y) nx ls rest (mb_cf n d y' as σ)) Q = mb_Ex (d - 1) y' as σ (mb_qx hs d y nx ls rest Q) := by
  refine propext ⟨fun ⟨n, o, σ1, h, q⟩ => ?_, fun ⟨n, o, σ1, h, q⟩ => ?_⟩
  · dsimp only at h
    rw [cf_run hd hl] at h
    unfold mb_bx at h
    split at h
    · rename_i σ2 he
      exact ⟨n, _, _, he, n, o, σ1, h, q⟩
    · rename_i v σ2 he
      exact ⟨n, _, _, he, n, o, σ1, h, q⟩
    · rename_i E σ2 he
      refine ⟨n, _, _, he, ?_⟩
      show mb_qx hs d y nx ls rest Q (.inr E) σ2
      unfold mb_qx
      dsimp only
      split at h
      · rename_i hlk
        rw [hlk]
        dsimp only
        split at h
        · rename_i hil
          rw [if_pos hil]
          exact ⟨n, o, σ1, h, q⟩
        · cases h
      · cases h
    · cases h
  · unfold mb_qx at q
    split at q
    · obtain ⟨m, o2, σ2, h2, q2⟩ := q
      refine ⟨n + m, o2, σ2, ?_, q2⟩
      dsimp only at h h2 ⊢
      rw [cf_run hd hl, mb_Pall hG _ _ _ _ _ _ _ _ h (n + m) (Nat.le_add_right _ _)]
      exact mb_Pall hG _ _ _ _ _ _ _ _ h2 (n + m) (Nat.le_add_left _ _)
    · obtain ⟨m, o2, σ2, h2, q2⟩ := q
      refine ⟨n + m, o2, σ2, ?_, q2⟩
      dsimp only at h h2 ⊢
      rw [cf_run hd hl, mb_Pall hG _ _ _ _ _ _ _ _ h (n + m) (Nat.le_add_right _ _)]
      exact mb_Pall hG _ _ _ _ _ _ _ _ h2 (n + m) (Nat.le_add_left _ _)
    · rename_i E
      split at q
      · rename_i t0 i0 hlk
        split at q
        · rename_i hil
          obtain ⟨m, o2, σ2, h2, q2⟩ := q
          refine ⟨n + m, o2, σ2, ?_, q2⟩
          dsimp only at h h2 ⊢
          rw [cf_run hd hl, mb_Pall hG _ _ _ _ _ _ _ _ h (n + m) (Nat.le_add_right _ _)]
          unfold mb_bx
          dsimp only
          rw [hlk]
          dsimp only
          rw [if_pos hil]
          exact mb_Pall hG _ _ _ _ _ _ _ _ h2 (n + m) (Nat.le_add_left _ _)
        · exact q.elim
      · exact q.elim
theorem rn_callv (hG : mb_Good) {y' np ci b : Nat} {hs : List (Nat × Nat × Nat)} {as st rest : List Value} (hP : mb_prog y pc = some (mi_callv y' np ci nx hs)) (hd : 1 ≤ d) (ha : (st.take np).reverse = .ref b :: as) (hr : st.drop np = rest) (hc : mb_c1 as = true ∧ (st.take np).length = np) (h4 : rest.length ≤ 4) (hl : (.ref b :: as : List Value).length ≤ mb_nl y' ∧ mb_c1 (.ref b :: as) = true) : mb_Rn d y pc ls st σ Q = mb_gf σ b ci False (fun _ => mb_Ex (d - 1) y' (.ref b :: as) σ (mb_qx hs d y nx ls rest Q)) := by
  rw [rn_row hP]
  have e : ∀ n, mi_callv y' np ci nx hs d (mb_cf n d) (mb_run mb_prog mb_nl n d y) ls st σ = mb_gf σ b ci none (fun _ => mb_bx hs (mb_run mb_prog mb_nl n d y) nx ls rest (mb_cf n d y' (.ref b :: as) σ)) := fun n => by
    unfold mi_callv
    rw [ha]
    dsimp only
    rw [if_pos ⟨hc.1, hc.2, by rw [hr]; exact h4⟩, hr]
  rw [show (fun n => mi_callv y' np ci nx hs d (mb_cf n d) (mb_run mb_prog mb_nl n d y) ls st σ) = _ from funext e, ok_gf]
  congr 1
  funext fs
  exact ok_bx hG hd hl
theorem rn_calli (hG : mb_Good) {y' np b : Nat} {as st rest : List Value} (hP : mb_prog y pc = some (mi_calli y' np nx)) (hd : 1 ≤ d) (ha : (st.take np).reverse = .ref b :: as) (hr : st.drop np = rest) (hc : mb_c1 as = true ∧ (st.take np).length = np) (h4 : rest.length ≤ 4) (hl : (.ref b :: as : List Value).length ≤ mb_nl y' ∧ mb_c1 (.ref b :: as) = true) : mb_Rn d y pc ls st σ Q = mb_Ex (d - 1) y' (.ref b :: as) σ (mb_qk d y nx ls rest Q) := by
  rw [rn_row hP]
  have e : ∀ n, mi_calli y' np nx d (mb_cf n d) (mb_run mb_prog mb_nl n d y) ls st σ = mb_bk (mb_run mb_prog mb_nl n d y) nx ls rest (mb_cf n d y' (.ref b :: as) σ) := fun n => by
    unfold mi_calli
    rw [ha]
    dsimp only
    rw [if_pos ⟨hc.1, hc.2, by rw [hr]; exact h4⟩, hr]
  rw [show (fun n => mi_calli y' np nx d (mb_cf n d) (mb_run mb_prog mb_nl n d y) ls st σ) = _ from funext e]
  exact ok_bk hG hd hl
theorem rn_calls (hG : mb_Good) {y' np : Nat} {as st rest : List Value} (hP : mb_prog y pc = some (mi_calls y' np nx)) (hd : 1 ≤ d) (ha : (st.take np).reverse = as) (hr : st.drop np = rest) (hc : mb_c1 (st.take np) = true ∧ (st.take np).length = np) (h4 : rest.length ≤ 4) (hl : as.length ≤ mb_nl y' ∧ mb_c1 as = true) : mb_Rn d y pc ls st σ Q = mb_Ex (d - 1) y' as σ (mb_qk d y nx ls rest Q) := by
  rw [rn_row hP]
  have e : ∀ n, mi_calls y' np nx d (mb_cf n d) (mb_run mb_prog mb_nl n d y) ls st σ = mb_bk (mb_run mb_prog mb_nl n d y) nx ls rest (mb_cf n d y' as σ) := fun n => by
    unfold mi_calls
    rw [if_pos ⟨hc.1, hc.2, by rw [hr]; exact h4⟩, hr, ha]
  rw [show (fun n => mi_calls y' np nx d (mb_cf n d) (mb_run mb_prog mb_nl n d y) ls st σ) = _ from funext e]
  exact ok_bk hG hd hl
theorem rn_callvp (hG : mb_Good) {y' np ci b : Nat} {as st rest : List Value} (hP : mb_prog y pc = some (mi_callvp y' np ci nx)) (hd : 1 ≤ d) (ha : (st.take np).reverse = .ref b :: as) (hr : st.drop np = rest) (hc : mb_c1 as = true ∧ (st.take np).length = np) (h4 : rest.length ≤ 4) (hl : (.ref b :: as : List Value).length ≤ mb_nl y' ∧ mb_c1 (.ref b :: as) = true) : mb_Rn d y pc ls st σ Q = mb_gf σ b ci False (fun _ => mb_Ex (d - 1) y' (.ref b :: as) σ (mb_qp d y nx ls rest Q)) := by
  rw [rn_row hP]
  have e : ∀ n, mi_callvp y' np ci nx d (mb_cf n d) (mb_run mb_prog mb_nl n d y) ls st σ = mb_gf σ b ci none (fun _ => mb_bp (mb_run mb_prog mb_nl n d y) nx ls rest (mb_cf n d y' (.ref b :: as) σ)) := fun n => by
    unfold mi_callvp
    rw [ha]
    dsimp only
    rw [if_pos ⟨hc.1, hc.2, by rw [hr]; exact h4⟩, hr]
  rw [show (fun n => mi_callvp y' np ci nx d (mb_cf n d) (mb_run mb_prog mb_nl n d y) ls st σ) = _ from funext e, ok_gf]
  congr 1
  funext fs
  exact ok_bp hG hd hl
theorem rn_callsx (hG : mb_Good) {y' np : Nat} {hs : List (Nat × Nat × Nat)} {as st rest : List Value} (hP : mb_prog y pc = some (mi_callsx y' np nx hs)) (hd : 1 ≤ d) (ha : (st.take np).reverse = as) (hr : st.drop np = rest) (hc : mb_c1 (st.take np) = true ∧ (st.take np).length = np) (h4 : rest.length ≤ 4) (hl : as.length ≤ mb_nl y' ∧ mb_c1 as = true) : mb_Rn d y pc ls st σ Q = mb_Ex (d - 1) y' as σ (mb_qx hs d y nx ls rest Q) := by
  rw [rn_row hP]
  have e : ∀ n, mi_callsx y' np nx hs d (mb_cf n d) (mb_run mb_prog mb_nl n d y) ls st σ = mb_bx hs (mb_run mb_prog mb_nl n d y) nx ls rest (mb_cf n d y' as σ) := fun n => by
    unfold mi_callsx
    rw [if_pos ⟨hc.1, hc.2, by rw [hr]; exact h4⟩, hr, ha]
  rw [show (fun n => mi_callsx y' np nx hs d (mb_cf n d) (mb_run mb_prog mb_nl n d y) ls st σ) = _ from funext e]
  exact ok_bx hG hd hl
theorem rn_oinit {a : Nat} {st : List Value} (hP : mb_prog y pc = some (mi_oinit nx)) (hd : 1 ≤ d) (h4 : st.length ≤ 4) : mb_Rn d y pc ls (.ref a :: st) σ Q = mb_Rn d y nx ls st σ Q := by
  refine rn_step hP (fun call k => ?_)
  unfold mi_oinit
  dsimp only
  rw [if_pos ⟨hd, h4⟩]
theorem rn_thr {E : Nat} (hP : mb_prog y pc = some (mi_thr E)) (hd : 6 ≤ d) : mb_Rn d y pc ls [] σ Q = Q (.inr E) (mb_th σ) := by
  refine rn_end hP (fun call k => ?_)
  unfold mi_thr
  dsimp only
  rw [if_pos hd]
theorem rn_zret {v : Int32} (hP : mb_prog y pc = some mi_zret) : mb_Rn d y pc ls [.int v] σ Q = if v = 0 ∨ v = 1 then Q (.inl (some (.int v))) σ else False := by
  rw [rn_row hP]
  unfold mi_zret
  dsimp only
  rw [ok_ite, ok_some, ok_none]
def mb_sw (F : Nat → Prop) : List Nat → Nat → Int32 → Prop → Prop
  | [], _, _, D => D
  | t :: ts, n, x, D => if x = nI n then F t else mb_sw F ts (n + 1) x D
theorem mb_sw_eq {F : Nat → Prop} {D : Prop} {x : Int32} (hx : ¬ x < 0) : ∀ (ts : List Nat) (n : Nat), n + ts.length < 2 ^ 31 → n ≤ x.toNatClampNeg → (match ts[x.toNatClampNeg - n]? with | some t => F t | none => D) = mb_sw F ts n x D := by
  obtain ⟨j, hj, rfl⟩ := nI_of hx
  rw [nI_clamp hj]
  intro ts
  induction ts with
  | nil => intro n h1 h2; rfl
  | cons t ts ih =>
    intro n h1 h2
    have h3 : n < 2 ^ 31 := by simp only [List.length_cons] at h1; omega
    unfold mb_sw
    by_cases h : j = n
    · subst h
      rw [if_pos rfl, Nat.sub_self]
      rfl
    · rw [if_neg (fun q => h ((nI_eq hj h3).mp q)), ← ih (n + 1) (by simp only [List.length_cons] at h1; omega) (by omega)]
      rw [show j - n = (j - (n + 1)) + 1 by omega, List.getElem?_cons_succ]
theorem rn_tsw {ts : List Nat} {x : Int32} {st : List Value} (hP : mb_prog y pc = some (mi_tsw ts t)) (hl : ts.length < 2 ^ 31) : mb_Rn d y pc ls (.int x :: st) σ Q = if x < 0 then mb_Rn d y t ls st σ Q else mb_sw (fun t' => mb_Rn d y t' ls st σ Q) ts 0 x (mb_Rn d y t ls st σ Q) := by
  rw [rn_row hP]
  unfold mi_tsw
  dsimp only
  rw [ok_ite]
  by_cases h : x < 0
  · rw [if_pos h, if_pos h]; rfl
  · rw [if_neg h, if_neg h, ← mb_sw_eq h ts 0 (by omega) (Nat.zero_le _), Nat.sub_zero]
    cases ts[x.toNatClampNeg]? <;> rfl
end MBO2
