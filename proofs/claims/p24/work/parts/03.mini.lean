/-! A SMALL MACHINE of this claim's own: heaps of the cells that the law's run makes, locals, operands, one row an instruction (a row is a function that goes on by its continuation). Part 04 shows that the real machine follows it; all later parts speak of the small machine alone. -/
abbrev mb_S : Type := (Nat → Option va_E) × Nat × Nat
abbrev mb_O : Type := Option Value ⊕ Nat
abbrev mb_L : Type := List (Option Value)
abbrev mb_R : Type := Option (mb_O × mb_S)
abbrev mb_C : Type := Nat → List Value → mb_S → mb_R
abbrev mb_K : Type := Nat → mb_L → List Value → mb_S → mb_R
abbrev mb_I : Type := Nat → mb_C → mb_K → mb_L → List Value → mb_S → mb_R
abbrev mb_P : Type := Nat → Nat → Option mb_I
def mb_ent (n : Nat) (as : List Value) : mb_L := as.map some ++ List.replicate (n - as.length) none
def mb_c1 (as : List Value) : Bool := as.all (fun v => v.category == 1)
def mb_run (P : mb_P) (nl : Nat → Nat) : Nat → Nat → Nat → mb_K
  | 0, _, _ => fun _ _ _ _ => none
  | n + 1, d, y => fun pc ls st σ => match P y pc with
    | none => none
    | some i => i d (fun y' as σ' => match d with
        | 0 => none
        | d' + 1 => if as.length ≤ nl y' ∧ mb_c1 as = true then mb_run P nl n d' y' 0 (mb_ent (nl y') as) [] σ' else none) (mb_run P nl n d y) ls st σ
def mb_up (σ : mb_S) (a : Nat) (e : va_E) : mb_S := (fun q => if q = a then some e else σ.1 q, σ.2.1, σ.2.2)
def mb_al (σ : mb_S) (e : va_E) (n : Nat) : mb_S := (fun q => if q = σ.2.1 then some e else σ.1 q, σ.2.1 + 1, σ.2.2 + n)
-- looks into the heap, with an answer for what isn't there
def mb_gf {α : Type} (σ : mb_S) (a ci : Nat) (bad : α) (K : List Value → α) : α := match σ.1 a with
  | some (.inr (c', fs)) => if c' = ci then K fs else bad
  | _ => bad
def mb_gi {α : Type} (σ : mb_S) (a : Nat) (i : Int32) (bad : α) (K : Nat → Nat → (Nat → Int32) → α) : α := match σ.1 a with
  | some (.inl (kd, n, .inl f)) => if i < 0 ∨ n ≤ i.toNatClampNeg then bad else K kd n f
  | _ => bad
def mb_gj {α : Type} (σ : mb_S) (a : Nat) (i : Int32) (bad : α) (K : Nat → Nat → (Nat → Int64) → α) : α := match σ.1 a with
  | some (.inl (kd, n, .inr (.inl f))) => if i < 0 ∨ n ≤ i.toNatClampNeg then bad else K kd n f
  | _ => bad
def mb_gq {α : Type} (σ : mb_S) (a : Nat) (i : Int32) (bad : α) (K : Nat → Nat → (Nat → Option Nat) → α) : α := match σ.1 a with
  | some (.inl (kd, n, .inr (.inr (.inr (.inr f))))) => if i < 0 ∨ n ≤ i.toNatClampNeg then bad else K kd n f
  | _ => bad
-- the rows
def mi_push (v : Value) (nx : Nat) : mb_I := fun _ _ k ls st σ => k nx ls (v :: st) σ
def mi_ild (i nx : Nat) : mb_I := fun _ _ k ls st σ => match ls[i]? with
  | some (some (.int x)) => k nx ls (.int x :: st) σ
  | _ => none
def mi_ald (i nx : Nat) : mb_I := fun _ _ k ls st σ => match ls[i]? with
  | some (some (.ref x)) => k nx ls (.ref x :: st) σ
  | some (some .null) => k nx ls (.null :: st) σ
  | _ => none
def mi_ist (i nx : Nat) : mb_I := fun _ _ k ls st σ => match st with
  | .int x :: st' => if i < ls.length then k nx (ls.set i (some (.int x))) st' σ else none
  | _ => none
def mi_ast (i nx : Nat) : mb_I := fun _ _ k ls st σ => match st with
  | .ref x :: st' => if i < ls.length then k nx (ls.set i (some (.ref x))) st' σ else none
  | .null :: st' => if i < ls.length then k nx (ls.set i (some .null)) st' σ else none
  | _ => none
def mi_iinc (i : Nat) (n : Int32) (nx : Nat) : mb_I := fun _ _ k ls st σ => match ls[i]? with
  | some (some (.int x)) => k nx (ls.set i (some (.int (x + n)))) st σ
  | _ => none
def mi_iadd (nx : Nat) : mb_I := fun _ _ k ls st σ => match st with
  | .int y :: .int x :: st' => k nx ls (.int (x + y) :: st') σ
  | _ => none
def mi_isub (nx : Nat) : mb_I := fun _ _ k ls st σ => match st with
  | .int y :: .int x :: st' => k nx ls (.int (x - y) :: st') σ
  | _ => none
def mi_imul (nx : Nat) : mb_I := fun _ _ k ls st σ => match st with
  | .int y :: .int x :: st' => k nx ls (.int (x * y) :: st') σ
  | _ => none
def mi_iand (nx : Nat) : mb_I := fun _ _ k ls st σ => match st with
  | .int y :: .int x :: st' => k nx ls (.int (x &&& y) :: st') σ
  | _ => none
def mi_ixor (nx : Nat) : mb_I := fun _ _ k ls st σ => match st with
  | .int y :: .int x :: st' => k nx ls (.int (x ^^^ y) :: st') σ
  | _ => none
def mi_idiv (nx : Nat) : mb_I := fun _ _ k ls st σ => match st with
  | .int y :: .int x :: st' => if y = 0 then none else k nx ls (.int (x / y) :: st') σ
  | _ => none
def mi_ineg (nx : Nat) : mb_I := fun _ _ k ls st σ => match st with
  | .int x :: st' => k nx ls (.int (-x) :: st') σ
  | _ => none
def mi_i2l (nx : Nat) : mb_I := fun _ _ k ls st σ => match st with
  | .int x :: st' => k nx ls (.long x.toInt64 :: st') σ
  | _ => none
def mi_lcmp (nx : Nat) : mb_I := fun _ _ k ls st σ => match st with
  | .long y :: .long x :: st' => k nx ls (.int (lg_cmp x y) :: st') σ
  | _ => none
def mi_dup (nx : Nat) : mb_I := fun _ _ k ls st σ => match st with
  | v :: st' => if v.category = 1 then k nx ls (v :: v :: st') σ else none
  | _ => none
def mi_pop (nx : Nat) : mb_I := fun _ _ k ls st σ => match st with
  | v :: st' => if v.category = 1 then k nx ls st' σ else none
  | _ => none
def mi_dup2 (nx : Nat) : mb_I := fun _ _ k ls st σ => match st with
  | v :: w :: st' => if v.category = 1 ∧ w.category = 1 then k nx ls (v :: w :: v :: w :: st') σ else none
  | _ => none
def mi_dupx1 (nx : Nat) : mb_I := fun _ _ k ls st σ => match st with
  | v :: w :: st' => if v.category = 1 ∧ w.category = 1 then k nx ls (v :: w :: v :: st') σ else none
  | _ => none
def mi_getf (ci kf nx : Nat) : mb_I := fun _ _ k ls st σ => match st with
  | .ref a :: st' => mb_gf σ a ci none (fun fs => k nx ls (fs.getD kf .null :: st') σ)
  | _ => none
/-- what a field of a kind may hold: kind 0 int, 1 boolean, 2 references -/
def mb_fit (z : Nat) (v : Value) : Bool := match z, v with
  | 0, .int _ => true
  | 1, .int x => x == 0 || x == 1
  | 2, .ref _ => true
  | 2, .null => true
  | _, _ => false
def mi_putf (ci kf z nx : Nat) : mb_I := fun _ _ k ls st σ => match st with
  | v :: .ref a :: st' => if mb_fit z v = true then mb_gf σ a ci none (fun fs => if kf < fs.length then k nx ls st' (mb_up σ a (.inr (ci, fs.set kf v))) else none) else none
  | _ => none
def mi_iald (nx : Nat) : mb_I := fun _ _ k ls st σ => match st with
  | .int i :: .ref a :: st' => mb_gi σ a i none (fun kd _ f => if kd = 0 ∨ kd = 9 then k nx ls (.int (f i.toNatClampNeg) :: st') σ else none)
  | _ => none
def mi_zald (nx : Nat) : mb_I := fun _ _ k ls st σ => match st with
  | .int i :: .ref a :: st' => mb_gi σ a i none (fun kd _ f => if kd = 2 then k nx ls (.int (f i.toNatClampNeg) :: st') σ else none)
  | _ => none
def mi_lald (nx : Nat) : mb_I := fun _ _ k ls st σ => match st with
  | .int i :: .ref a :: st' => mb_gj σ a i none (fun kd _ f => if kd = 1 then k nx ls (.long (f i.toNatClampNeg) :: st') σ else none)
  | _ => none
def mi_aald (nx : Nat) : mb_I := fun _ _ k ls st σ => match st with
  | .int i :: .ref a :: st' => mb_gq σ a i none (fun kd _ f => if 10 ≤ kd ∧ kd < 19 then k nx ls (va_rf (f i.toNatClampNeg) :: st') σ else none)
  | _ => none
def mi_iast (nx : Nat) : mb_I := fun _ _ k ls st σ => match st with
  | .int x :: .int i :: .ref a :: st' => mb_gi σ a i none (fun kd n f => if kd = 0 then k nx ls st' (mb_up σ a (.inl (0, n, .inl (upd f i.toNatClampNeg x)))) else none)
  | _ => none
def mi_zast (nx : Nat) : mb_I := fun _ _ k ls st σ => match st with
  | .int x :: .int i :: .ref a :: st' => mb_gi σ a i none (fun kd n f => if kd = 2 ∧ (x = 0 ∨ x = 1) then k nx ls st' (mb_up σ a (.inl (2, n, .inl (upd f i.toNatClampNeg x)))) else none)
  | _ => none
def mi_last (nx : Nat) : mb_I := fun _ _ k ls st σ => match st with
  | .long x :: .int i :: .ref a :: st' => mb_gj σ a i none (fun kd n f => if kd = 1 then k nx ls st' (mb_up σ a (.inl (1, n, .inr (.inl (vp_updL f i.toNatClampNeg x))))) else none)
  | _ => none
def mi_aast (ci nx : Nat) : mb_I := fun _ _ k ls st σ => match st with
  | .ref v :: .int i :: .ref a :: st' => mb_gf σ v ci none (fun _ => mb_gq σ a i none (fun kd n f => if kd = 10 + ci then k nx ls st' (mb_up σ a (.inl (10 + ci, n, .inr (.inr (.inr (.inr (va_up f i.toNatClampNeg (some v)))))))) else none))
  | _ => none
def mi_alen (nx : Nat) : mb_I := fun _ _ k ls st σ => match st with
  | .ref a :: st' => match σ.1 a with
    | some (.inl (kd, n, .inl _)) => if kd = 9 then k nx ls (.int (Int32.ofNat n) :: st') σ else none
    | _ => none
  | _ => none
def mi_if1 (c : Int32 → Bool) (t nx : Nat) : mb_I := fun _ _ k ls st σ => match st with
  | .int x :: st' => if c x = true then k t ls st' σ else k nx ls st' σ
  | _ => none
def mi_if2 (c : Int32 → Int32 → Bool) (t nx : Nat) : mb_I := fun _ _ k ls st σ => match st with
  | .int y :: .int x :: st' => if c x y = true then k t ls st' σ else k nx ls st' σ
  | _ => none
def mi_ifn (t nx : Nat) : mb_I := fun _ _ k ls st σ => match st with
  | .ref _ :: st' => k nx ls st' σ
  | .null :: st' => k t ls st' σ
  | _ => none
def mi_ifnn (t nx : Nat) : mb_I := fun _ _ k ls st σ => match st with
  | .ref _ :: st' => k t ls st' σ
  | .null :: st' => k nx ls st' σ
  | _ => none
def mi_go (t : Nat) : mb_I := fun _ _ k ls st σ => k t ls st σ
/-- a switch over 0, 1, .. -/
def mi_tsw (ts : List Nat) (dflt : Nat) : mb_I := fun _ _ k ls st σ => match st with
  | .int x :: st' => if x < 0 then k dflt ls st' σ else match ts[x.toNatClampNeg]? with
    | some t => k t ls st' σ
    | none => k dflt ls st' σ
  | _ => none
/-- what comes back from a call that doesn't throw -/
def mb_bk (k : mb_K) (nx : Nat) (ls : mb_L) (st : List Value) (r : mb_R) : mb_R := match r with
  | some (.inl none, σ') => k nx ls st σ'
  | some (.inl (some v), σ') => k nx ls (v :: st) σ'
  | _ => none
def mb_bx (hs : List (Nat × Nat × Nat)) (k : mb_K) (nx : Nat) (ls : mb_L) (st : List Value) (r : mb_R) : mb_R := match r with
  | some (.inl none, σ') => k nx ls st σ'
  | some (.inl (some v), σ') => k nx ls (v :: st) σ'
  | some (.inr E, σ') => match hs.lookup E with
    | some (t, i) => if i < ls.length then k t (ls.set i none) [] σ' else none
    | none => none
  | none => none
/-- calls: of a method of an object of class ci (virtual), of a constructor, of a static method; np arguments, the receiver among them -/
def mi_callv (y np ci nx : Nat) (hs : List (Nat × Nat × Nat)) : mb_I := fun _ call k ls st σ => match (st.take np).reverse with
  | .ref b :: as => if mb_c1 as = true ∧ (st.take np).length = np ∧ (st.drop np).length ≤ 4 then mb_gf σ b ci none (fun _ => mb_bx hs k nx ls (st.drop np) (call y (.ref b :: as) σ)) else none
  | _ => none
def mi_calli (y np nx : Nat) : mb_I := fun _ call k ls st σ => match (st.take np).reverse with
  | .ref b :: as => if mb_c1 as = true ∧ (st.take np).length = np ∧ (st.drop np).length ≤ 4 then mb_bk k nx ls (st.drop np) (call y (.ref b :: as) σ) else none
  | _ => none
def mi_calls (y np nx : Nat) : mb_I := fun _ call k ls st σ =>
  if mb_c1 (st.take np) = true ∧ (st.take np).length = np ∧ (st.drop np).length ≤ 4 then mb_bk k nx ls (st.drop np) (call y (st.take np).reverse σ) else none
def mi_new (ci : Nat) (fs : List Value) (nx : Nat) : mb_I := fun _ _ k ls st σ => k nx ls (.ref σ.2.1 :: st) (mb_al σ (.inr (ci, fs)) fs.length)
def mi_newi (nx : Nat) : mb_I := fun _ _ k ls st σ => match st with
  | .int n :: st' => if n < 0 ∨ 1000000 < n.toNatClampNeg then none else k nx ls (.ref σ.2.1 :: st') (mb_al σ (.inl (0, n.toNatClampNeg, .inl (fun _ => 0))) n.toNatClampNeg)
  | _ => none
def mi_newj (nx : Nat) : mb_I := fun _ _ k ls st σ => match st with
  | .int n :: st' => if n < 0 ∨ 1000000 < n.toNatClampNeg then none else k nx ls (.ref σ.2.1 :: st') (mb_al σ (.inl (1, n.toNatClampNeg, .inr (.inl (fun _ => 0)))) n.toNatClampNeg)
  | _ => none
def mi_newz (nx : Nat) : mb_I := fun _ _ k ls st σ => match st with
  | .int n :: st' => if n < 0 ∨ 1000000 < n.toNatClampNeg then none else k nx ls (.ref σ.2.1 :: st') (mb_al σ (.inl (2, n.toNatClampNeg, .inl (fun _ => 0))) n.toNatClampNeg)
  | _ => none
def mi_newq (ci nx : Nat) : mb_I := fun _ _ k ls st σ => match st with
  | .int n :: st' => if n < 0 ∨ 1000000 < n.toNatClampNeg then none else k nx ls (.ref σ.2.1 :: st') (mb_al σ (.inl (10 + ci, n.toNatClampNeg, .inr (.inr (.inr (.inr (fun _ => none)))))) n.toNatClampNeg)
  | _ => none
def mi_oinit (nx : Nat) : mb_I := fun d _ k ls st σ => match st with
  | .ref _ :: st' => if 1 ≤ d ∧ st'.length ≤ 4 then k nx ls st' σ else none
  | _ => none
def mi_iret : mb_I := fun _ _ _ _ st σ => match st with
  | [.int v] => some (.inl (some (.int v)), σ)
  | _ => none
def mi_zret : mb_I := fun _ _ _ _ st σ => match st with
  | [.int v] => if v = 0 ∨ v = 1 then some (.inl (some (.int v)), σ) else none
  | _ => none
def mi_aret : mb_I := fun _ _ _ _ st σ => match st with
  | [.ref v] => some (.inl (some (.ref v)), σ)
  | [.null] => some (.inl (some .null), σ)
  | _ => none
def mi_vret : mb_I := fun _ _ _ _ st σ => match st with
  | [] => some (.inl none, σ)
  | _ => none
def mb_th (σ : mb_S) : mb_S := (σ.1, σ.2.1 + 1, σ.2.2 + 6)
def mi_thr (E : Nat) : mb_I := fun d _ _ _ st σ => match st with
  | [] => if 6 ≤ d then some (.inr E, mb_th σ) else none
  | _ => none
def mi_irem (nx : Nat) : mb_I := fun _ _ k ls st σ => match st with
  | .int y :: .int x :: st' => if y = 0 then none else k nx ls (.int (x % y) :: st') σ
  | _ => none
def mi_ishr (nx : Nat) : mb_I := fun _ _ k ls st σ => match st with
  | .int y :: .int x :: st' => k nx ls (.int (x >>> (y &&& 31)) :: st') σ
  | _ => none
/-- what comes back from a call in a method without handlers: what is thrown goes on -/
def mb_bp (k : mb_K) (nx : Nat) (ls : mb_L) (st : List Value) (r : mb_R) : mb_R := match r with
  | some (.inl none, σ') => k nx ls st σ'
  | some (.inl (some v), σ') => k nx ls (v :: st) σ'
  | some (.inr E, σ') => some (.inr E, σ')
  | none => none
def mi_callvp (y np ci nx : Nat) : mb_I := fun _ call k ls st σ => match (st.take np).reverse with
  | .ref b :: as => if mb_c1 as = true ∧ (st.take np).length = np ∧ (st.drop np).length ≤ 4 then mb_gf σ b ci none (fun _ => mb_bp k nx ls (st.drop np) (call y (.ref b :: as) σ)) else none
  | _ => none
def mi_callsx (y np nx : Nat) (hs : List (Nat × Nat × Nat)) : mb_I := fun _ call k ls st σ =>
  if mb_c1 (st.take np) = true ∧ (st.take np).length = np ∧ (st.drop np).length ≤ 4 then mb_bx hs k nx ls (st.drop np) (call y (st.take np).reverse σ) else none
