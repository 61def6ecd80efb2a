/-! frames that are cut: where the reference puts what was kept -/
section
variable {S S' : pz_S} {s f : Int}
theorem rz_g1_17 {i j : Int} (hij : i ≠ j) : ∀ (n : Nat) (a : Int) (S : pz_S) (x : Int), 0 ≤ a → a + n ≤ 8 → pz_g1 i j n a S 17 x = if 8 * j + a ≤ x ∧ x < 8 * j + a + n then S 17 (x - 8 * j + 8 * i) else S 17 x := by
  intro n
  induction n with
  | zero => intro a S x _ _; rw [if_neg (by omega)]; rfl
  | succ n ih =>
    intro a S x h1 h2
    refine (ih (a + 1) _ x (by omega) (by omega)).trans ?_
    have e : ∀ y, (pz_su (pz_su S 17 (8 * j + a) (S 17 (8 * i + a))) 18 (8 * j + a) (S 18 (8 * i + a))) 17 y = if y = 8 * j + a then S 17 (8 * i + a) else S 17 y := fun y => by rw [pz_su_t (by decide), pz_su_i]
    rw [e, e]
    by_cases c : x = 8 * j + a
    · rw [if_neg (by omega), if_pos c, if_pos (by omega), show x - 8 * j + 8 * i = 8 * i + a by omega]
    · by_cases c2 : 8 * j + (a + 1) ≤ x ∧ x < 8 * j + (a + 1) + n
      · rw [if_pos c2, if_neg (by omega), if_pos (by omega)]
      · rw [if_neg c2, if_neg c, if_neg (by omega)]
theorem rz_g1_18 {i j : Int} (hij : i ≠ j) : ∀ (n : Nat) (a : Int) (S : pz_S) (x : Int), 0 ≤ a → a + n ≤ 8 → pz_g1 i j n a S 18 x = if 8 * j + a ≤ x ∧ x < 8 * j + a + n then S 18 (x - 8 * j + 8 * i) else S 18 x := by
  intro n
  induction n with
  | zero => intro a S x _ _; rw [if_neg (by omega)]; rfl
  | succ n ih =>
    intro a S x h1 h2
    refine (ih (a + 1) _ x (by omega) (by omega)).trans ?_
    have e : ∀ y, (pz_su (pz_su S 17 (8 * j + a) (S 17 (8 * i + a))) 18 (8 * j + a) (S 18 (8 * i + a))) 18 y = if y = 8 * j + a then S 18 (8 * i + a) else S 18 y := fun y => by rw [pz_su_i, pz_su_t (by decide)]
    rw [e, e]
    by_cases c : x = 8 * j + a
    · rw [if_neg (by omega), if_pos c, if_pos (by omega), show x - 8 * j + 8 * i = 8 * i + a by omega]
    · by_cases c2 : 8 * j + (a + 1) ≤ x ∧ x < 8 * j + (a + 1) + n
      · rw [if_pos c2, if_neg (by omega), if_pos (by omega)]
      · rw [if_neg c2, if_neg c, if_neg (by omega)]
theorem rz_g2_19 {i j : Int} (hij : i ≠ j) : ∀ (n : Nat) (a : Int) (S : pz_S) (x : Int), 0 ≤ a → a + n ≤ 80 → pz_g2 i j n a S 19 x = if 80 * j + a ≤ x ∧ x < 80 * j + a + n then S 19 (x - 80 * j + 80 * i) else S 19 x := by
  intro n
  induction n with
  | zero => intro a S x _ _; rw [if_neg (by omega)]; rfl
  | succ n ih =>
    intro a S x h1 h2
    refine (ih (a + 1) _ x (by omega) (by omega)).trans ?_
    rw [pz_su_i, pz_su_i]
    by_cases c : x = 80 * j + a
    · rw [if_neg (by omega), if_pos c, if_pos (by omega), show x - 80 * j + 80 * i = 80 * i + a by omega]
    · by_cases c2 : 80 * j + (a + 1) ≤ x ∧ x < 80 * j + (a + 1) + n
      · rw [if_pos c2, if_neg (by omega), if_pos (by omega)]
      · rw [if_neg c2, if_neg c, if_neg (by omega)]
theorem rz_g1_t {i j : Int} {t : Nat} (h1 : t ≠ 17) (h2 : t ≠ 18) : ∀ (n : Nat) (a : Int) (S : pz_S), pz_g1 i j n a S t = S t := by
  intro n
  induction n with
  | zero => intro a S; rfl
  | succ n ih => intro a S; exact (ih _ _).trans ((pz_su_t h2).trans (pz_su_t h1))
theorem rz_g2_t {i j : Int} {t : Nat} (h1 : t ≠ 19) : ∀ (n : Nat) (a : Int) (S : pz_S), pz_g2 i j n a S t = S t := by
  intro n
  induction n with
  | zero => intro a S; rfl
  | succ n ih => intro a S; exact (ih _ _).trans (pz_su_t h1)
theorem rz_go_15 {i j x : Int} : pz_go S i j 15 x = if x = j then S 15 i else S 15 x := by
  unfold pz_go
  rw [rz_g2_t (by decide), rz_g1_t (by decide) (by decide), pz_su_t (by decide), pz_su_i]
theorem rz_go_16 {i j x : Int} : pz_go S i j 16 x = if x = j then S 16 i else S 16 x := by
  unfold pz_go
  rw [rz_g2_t (by decide), rz_g1_t (by decide) (by decide), pz_su_i, pz_su_t (by decide)]
theorem rz_go_17 {i j x : Int} (hij : i ≠ j) : pz_go S i j 17 x = if 8 * j ≤ x ∧ x < 8 * j + 8 then S 17 (x - 8 * j + 8 * i) else S 17 x := by
  unfold pz_go
  rw [rz_g2_t (by decide), rz_g1_17 hij 8 0 _ _ (by omega) (by omega), pz_su_t (by decide), pz_su_t (by decide)]
  exact rz_ic (by omega)
theorem rz_go_18 {i j x : Int} (hij : i ≠ j) : pz_go S i j 18 x = if 8 * j ≤ x ∧ x < 8 * j + 8 then S 18 (x - 8 * j + 8 * i) else S 18 x := by
  unfold pz_go
  rw [rz_g2_t (by decide), rz_g1_18 hij 8 0 _ _ (by omega) (by omega), pz_su_t (by decide), pz_su_t (by decide)]
  exact rz_ic (by omega)
theorem rz_go_19 {i j x : Int} (hij : i ≠ j) : pz_go S i j 19 x = if 80 * j ≤ x ∧ x < 80 * j + 80 then S 19 (x - 80 * j + 80 * i) else S 19 x := by
  unfold pz_go
  rw [rz_g2_19 hij 80 0 _ _ (by omega) (by omega), rz_g1_t (by decide) (by decide), pz_su_t (by decide), pz_su_t (by decide)]
  exact rz_ic (by omega)
theorem rz_c1_15c {k : Int} (hk : 1 ≤ k) : ∀ (n : Nat) (f : Int) (S : pz_S) (x : Int), pz_c1 s k n f S 15 x = if 40 * s + f ≤ x ∧ x < 40 * s + f + n then S 15 (x + k) else S 15 x := by
  intro n
  induction n with
  | zero => intro f S x; rw [if_neg (by omega)]; rfl
  | succ n ih =>
    intro f S x
    refine (ih (f + 1) _ x).trans ?_
    rw [rz_go_15, rz_go_15]
    by_cases c : x = 40 * s + f
    · rw [if_neg (by omega), if_pos c, if_pos (by omega)]
      exact congrArg (S 15) (by omega)
    · by_cases c2 : 40 * s + (f + 1) ≤ x ∧ x < 40 * s + (f + 1) + n
      · rw [if_pos c2, if_neg (by omega), if_pos (by omega)]
      · rw [if_neg c2, if_neg c, if_neg (by omega)]
theorem rz_c1_16c {k : Int} (hk : 1 ≤ k) : ∀ (n : Nat) (f : Int) (S : pz_S) (x : Int), pz_c1 s k n f S 16 x = if 40 * s + f ≤ x ∧ x < 40 * s + f + n then S 16 (x + k) else S 16 x := by
  intro n
  induction n with
  | zero => intro f S x; rw [if_neg (by omega)]; rfl
  | succ n ih =>
    intro f S x
    refine (ih (f + 1) _ x).trans ?_
    rw [rz_go_16, rz_go_16]
    by_cases c : x = 40 * s + f
    · rw [if_neg (by omega), if_pos c, if_pos (by omega)]
      exact congrArg (S 16) (by omega)
    · by_cases c2 : 40 * s + (f + 1) ≤ x ∧ x < 40 * s + (f + 1) + n
      · rw [if_pos c2, if_neg (by omega), if_pos (by omega)]
      · rw [if_neg c2, if_neg c, if_neg (by omega)]
theorem rz_c1_17c {k : Int} (hk : 1 ≤ k) : ∀ (n : Nat) (f : Int) (S : pz_S) (x : Int), pz_c1 s k n f S 17 x = if 8 * (40 * s + f) ≤ x ∧ x < 8 * (40 * s + f + n) then S 17 (x + 8 * k) else S 17 x := by
  intro n
  induction n with
  | zero => intro f S x; rw [if_neg (by omega)]; rfl
  | succ n ih =>
    intro f S x
    refine (ih (f + 1) _ x).trans ?_
    rw [rz_go_17 (show 40 * s + f + k ≠ 40 * s + f by omega), rz_go_17 (show 40 * s + f + k ≠ 40 * s + f by omega)]
    by_cases c : 8 * (40 * s + f) ≤ x ∧ x < 8 * (40 * s + f) + 8
    · rw [if_neg (by omega), if_pos c, if_pos (by omega)]
      exact congrArg (S 17) (by omega)
    · by_cases c2 : 8 * (40 * s + (f + 1)) ≤ x ∧ x < 8 * (40 * s + (f + 1) + n)
      · rw [if_pos c2, if_neg (by omega), if_pos (by omega)]
      · rw [if_neg c2, if_neg c, if_neg (by omega)]
theorem rz_c1_18c {k : Int} (hk : 1 ≤ k) : ∀ (n : Nat) (f : Int) (S : pz_S) (x : Int), pz_c1 s k n f S 18 x = if 8 * (40 * s + f) ≤ x ∧ x < 8 * (40 * s + f + n) then S 18 (x + 8 * k) else S 18 x := by
  intro n
  induction n with
  | zero => intro f S x; rw [if_neg (by omega)]; rfl
  | succ n ih =>
    intro f S x
    refine (ih (f + 1) _ x).trans ?_
    rw [rz_go_18 (show 40 * s + f + k ≠ 40 * s + f by omega), rz_go_18 (show 40 * s + f + k ≠ 40 * s + f by omega)]
    by_cases c : 8 * (40 * s + f) ≤ x ∧ x < 8 * (40 * s + f) + 8
    · rw [if_neg (by omega), if_pos c, if_pos (by omega)]
      exact congrArg (S 18) (by omega)
    · by_cases c2 : 8 * (40 * s + (f + 1)) ≤ x ∧ x < 8 * (40 * s + (f + 1) + n)
      · rw [if_pos c2, if_neg (by omega), if_pos (by omega)]
      · rw [if_neg c2, if_neg c, if_neg (by omega)]
theorem rz_c1_19c {k : Int} (hk : 1 ≤ k) : ∀ (n : Nat) (f : Int) (S : pz_S) (x : Int), pz_c1 s k n f S 19 x = if 80 * (40 * s + f) ≤ x ∧ x < 80 * (40 * s + f + n) then S 19 (x + 80 * k) else S 19 x := by
  intro n
  induction n with
  | zero => intro f S x; rw [if_neg (by omega)]; rfl
  | succ n ih =>
    intro f S x
    refine (ih (f + 1) _ x).trans ?_
    rw [rz_go_19 (show 40 * s + f + k ≠ 40 * s + f by omega), rz_go_19 (show 40 * s + f + k ≠ 40 * s + f by omega)]
    by_cases c : 80 * (40 * s + f) ≤ x ∧ x < 80 * (40 * s + f) + 80
    · rw [if_neg (by omega), if_pos c, if_pos (by omega)]
      exact congrArg (S 19) (by omega)
    · by_cases c2 : 80 * (40 * s + (f + 1)) ≤ x ∧ x < 80 * (40 * s + (f + 1) + n)
      · rw [if_pos c2, if_neg (by omega), if_pos (by omega)]
      · rw [if_neg c2, if_neg c, if_neg (by omega)]
theorem rz_c1_tc {k : Int} {t : Nat} (h1 : t ≠ 15) (h2 : t ≠ 16) (h3 : t ≠ 17) (h4 : t ≠ 18) (h5 : t ≠ 19) : ∀ (n : Nat) (f : Int) (S : pz_S), pz_c1 s k n f S t = S t := by
  intro n
  induction n with
  | zero => intro f S; rfl
  | succ n ih =>
    intro f S
    refine (ih _ _).trans ?_
    unfold pz_go
    rw [rz_g2_t h5, rz_g1_t h3 h4, pz_su_t h2, pz_su_t h1]
theorem rz_c2_t {g k l : Int} {t : Nat} (h1 : t ≠ 23) (h2 : t ≠ 25) : ∀ (n : Nat) (i : Int) (S : pz_S), pz_c2 s g k l n i S t = S t := by
  intro n
  induction n with
  | zero => intro i S; rfl
  | succ n ih => intro i S; refine (ih _ _).trans ?_; split; exact pz_cy_t h1 h2; rfl
theorem rz_cy_o {n g k l x : Int} (h : x ≠ n) : pz_cy S n g k l 25 x = S 25 x := by
  unfold pz_cy
  split
  · rw [pz_su_t (by decide)]
  · split
    · rw [pz_su_i, if_neg h, pz_su_t (by decide)]
    · rfl
theorem rz_c2_25 {g k l : Int} : ∀ (n : Nat) (i : Int) (S : pz_S) (x : Int), i + n ≤ x → pz_c2 s g k l n i S 25 x = S 25 x := by
  intro n
  induction n with
  | zero => intro i S x h; rfl
  | succ n ih =>
    intro i S x h
    refine (ih (i + 1) _ x (by omega)).trans ?_
    split
    · exact rz_cy_o (by omega)
    · rfl
/-- the scene s without k frames from g on: all but the notes -/
def rz_ct (S : pz_S) (s g k : Int) : pz_S := pz_c1 s k (S 10 s - k - g).toNat g (pz_su S 10 s (S 10 s - k))
theorem rz_ct_t {g k : Int} {t : Nat} (h0 : t ≠ 10) (h1 : t ≠ 15) (h2 : t ≠ 16) (h3 : t ≠ 17) (h4 : t ≠ 18) (h5 : t ≠ 19) : rz_ct S s g k t = S t := (rz_c1_tc h1 h2 h3 h4 h5 _ _ _).trans (pz_su_t h0)
theorem rz_ct_10 {g k x : Int} : rz_ct S s g k 10 x = if x = s then S 10 s - k else S 10 x := by
  unfold rz_ct
  rw [rz_c1_tc (by decide) (by decide) (by decide) (by decide) (by decide), pz_su_i]
theorem rz_ct_15 {g k x : Int} (hk : 1 ≤ k) (hg : g ≤ S 10 s - k) : rz_ct S s g k 15 x = if 40 * s + g ≤ x ∧ x < 40 * s + (S 10 s - k) then S 15 (x + k) else S 15 x := by
  unfold rz_ct
  rw [rz_c1_15c hk, pz_su_t (by decide)]
  exact rz_ic (by omega)
theorem rz_ct_16 {g k x : Int} (hk : 1 ≤ k) (hg : g ≤ S 10 s - k) : rz_ct S s g k 16 x = if 40 * s + g ≤ x ∧ x < 40 * s + (S 10 s - k) then S 16 (x + k) else S 16 x := by
  unfold rz_ct
  rw [rz_c1_16c hk, pz_su_t (by decide)]
  exact rz_ic (by omega)
theorem rz_ct_17 {g k x : Int} (hk : 1 ≤ k) (hg : g ≤ S 10 s - k) : rz_ct S s g k 17 x = if 8 * (40 * s + g) ≤ x ∧ x < 8 * (40 * s + (S 10 s - k)) then S 17 (x + 8 * k) else S 17 x := by
  unfold rz_ct
  rw [rz_c1_17c hk, pz_su_t (by decide)]
  exact rz_ic (by omega)
theorem rz_ct_18 {g k x : Int} (hk : 1 ≤ k) (hg : g ≤ S 10 s - k) : rz_ct S s g k 18 x = if 8 * (40 * s + g) ≤ x ∧ x < 8 * (40 * s + (S 10 s - k)) then S 18 (x + 8 * k) else S 18 x := by
  unfold rz_ct
  rw [rz_c1_18c hk, pz_su_t (by decide)]
  exact rz_ic (by omega)
theorem rz_ct_19 {g k x : Int} (hk : 1 ≤ k) (hg : g ≤ S 10 s - k) : rz_ct S s g k 19 x = if 80 * (40 * s + g) ≤ x ∧ x < 80 * (40 * s + (S 10 s - k)) then S 19 (x + 80 * k) else S 19 x := by
  unfold rz_ct
  rw [rz_c1_19c hk, pz_su_t (by decide)]
  exact rz_ic (by omega)
theorem rz_cut_e {g k : Int} : pz_cut S s g k = pz_c2 s g k (S 10 s - k) (S 21 0).toNat 0 (rz_ct S s g k) := rfl
theorem rz_W_ct {g k : Int} (hW : pz_W S) (h1 : 1 ≤ k) (h2 : k ≤ S 10 s) : pz_W (rz_ct S s g k) := by
  have w := pw_10 hW s
  exact pw_c1 _ _ _ (pws_10 hW (by omega) (by omega))
theorem rz_I_ct {g k : Int} (hW : pz_W S) (hI : pz_I S) (hk : 1 ≤ k) (hg0 : 0 ≤ g) (hg : g ≤ S 10 s - k) (hs0 : 0 ≤ s) (hs1 : s < S 9 0) : pz_I (rz_ct S s g k) := by
  have w10 := pw_10 hW s
  have tt : ∀ t, t ≠ 10 → t ≠ 15 → t ≠ 16 → t ≠ 17 → t ≠ 18 → t ≠ 19 → rz_ct S s g k t = S t := fun t t1 t2 t3 t4 t5 t6 => rz_ct_t t1 t2 t3 t4 t5 t6
  refine rz_I_of ?_ ?_ ?_
  · rw [tt 1 (by decide) (by decide) (by decide) (by decide) (by decide) (by decide), tt 2 (by decide) (by decide) (by decide) (by decide) (by decide) (by decide), tt 11 (by decide) (by decide) (by decide) (by decide) (by decide) (by decide), tt 12 (by decide) (by decide) (by decide) (by decide) (by decide) (by decide)]; exact hI.1
  · rw [tt 2 (by decide) (by decide) (by decide) (by decide) (by decide) (by decide), tt 3 (by decide) (by decide) (by decide) (by decide) (by decide) (by decide)]; exact hI.2.1
  · rw [tt 9 (by decide) (by decide) (by decide) (by decide) (by decide) (by decide)]
    intro s' f' s0 s1 f0 f1 ht
    have w10' := pw_10 hW s'
    rw [rz_ct_10] at f1
    rw [rz_ct_16 hk hg] at ht
    have po : ∀ r q b, pz_po (rz_ct S s g k) r q 10 b = pz_po S r q 10 b := fun r q b => rz_po0 (tt 4 (by decide) (by decide) (by decide) (by decide) (by decide) (by decide)) (tt 5 (by decide) (by decide) (by decide) (by decide) (by decide) (by decide)) (tt 6 (by decide) (by decide) (by decide) (by decide) (by decide) (by decide)) (tt 7 (by decide) (by decide) (by decide) (by decide) (by decide) (by decide)) (tt 8 (by decide) (by decide) (by decide) (by decide) (by decide) (by decide)) 10 b
    by_cases c : 40 * s + g ≤ 40 * s' + f' ∧ 40 * s' + f' < 40 * s + (S 10 s - k)
    · have es : s' = s := by
        by_cases e : s' = s
        · exact e
        · rw [if_neg e] at f1; omega
      subst es
      rw [if_pos c] at ht
      have kf := rz_I_3 hI s' (f' + k) s0 s1 (by omega) (by omega) (by rw [← Int.add_assoc]; exact ht)
      intro a a0 a1
      obtain ⟨k1, k2, k3⟩ := kf a a0 a1
      have w18 := pw_18 hW (8 * (40 * s' + (f' + k)) + a)
      have e17 : rz_ct S s' g k 17 (8 * (40 * s' + f') + a) = S 17 (8 * (40 * s' + (f' + k)) + a) := by rw [rz_ct_17 hk hg, if_pos (by omega), show 8 * (40 * s' + f') + a + 8 * k = 8 * (40 * s' + (f' + k)) + a by omega]
      have e18 : rz_ct S s' g k 18 (8 * (40 * s' + f') + a) = S 18 (8 * (40 * s' + (f' + k)) + a) := by rw [rz_ct_18 hk hg, if_pos (by omega), show 8 * (40 * s' + f') + a + 8 * k = 8 * (40 * s' + (f' + k)) + a by omega]
      have e15 : rz_ct S s' g k 15 (40 * s' + f') = S 15 (40 * s' + (f' + k)) := by rw [rz_ct_15 hk hg, if_pos (by omega), show 40 * s' + f' + k = 40 * s' + (f' + k) by omega]
      rw [e17, e18, e15, tt 2 (by decide) (by decide) (by decide) (by decide) (by decide) (by decide), tt 3 (by decide) (by decide) (by decide) (by decide) (by decide) (by decide)]
      refine ⟨k1, k2, fun b b0 b1 => ?_⟩
      rw [rz_ct_19 hk hg, if_pos (by omega), po, show 10 * (8 * (40 * s' + f') + a) + b + 80 * k = 10 * (8 * (40 * s' + (f' + k)) + a) + b by omega]
      exact k3 b b0 b1
    · rw [if_neg c] at ht
      have f1' : f' < S 10 s' := by
        by_cases e : s' = s
        · rw [if_pos e] at f1; rw [e]; omega
        · rw [if_neg e] at f1; exact f1
      have kf := rz_I_3 hI s' f' s0 s1 f0 f1' ht
      intro a a0 a1
      obtain ⟨k1, k2, k3⟩ := kf a a0 a1
      have w18 := pw_18 hW (8 * (40 * s' + f') + a)
      have e17 : rz_ct S s g k 17 (8 * (40 * s' + f') + a) = S 17 (8 * (40 * s' + f') + a) := by rw [rz_ct_17 hk hg, if_neg (by omega)]
      have e18 : rz_ct S s g k 18 (8 * (40 * s' + f') + a) = S 18 (8 * (40 * s' + f') + a) := by rw [rz_ct_18 hk hg, if_neg (by omega)]
      have e15 : rz_ct S s g k 15 (40 * s' + f') = S 15 (40 * s' + f') := by rw [rz_ct_15 hk hg, if_neg (by omega)]
      rw [e17, e18, e15, tt 2 (by decide) (by decide) (by decide) (by decide) (by decide) (by decide), tt 3 (by decide) (by decide) (by decide) (by decide) (by decide) (by decide)]
      refine ⟨k1, k2, fun b b0 b1 => ?_⟩
      rw [rz_ct_19 hk hg, if_neg (by omega), po]
      exact k3 b b0 b1
theorem rz_I_t (h : ∀ x ∈ [1, 2, 3, 4, 5, 6, 7, 8, 9, 10, 11, 12, 15, 16, 17, 18, 19], S' x = S x) (hI : pz_I S) : pz_I S' := by
  refine rz_I_of ?_ ?_ ?_
  · rw [h 1 (by decide), h 2 (by decide), h 11 (by decide), h 12 (by decide)]; exact hI.1
  · rw [h 2 (by decide), h 3 (by decide)]; exact hI.2.1
  · rw [h 9 (by decide), h 10 (by decide), h 16 (by decide)]
    intro s f s0 s1 f0 f1 ht
    exact rz_kf_t (h 2 (by decide)) (h 3 (by decide)) (h 4 (by decide)) (h 5 (by decide)) (h 6 (by decide)) (h 7 (by decide)) (h 8 (by decide)) (h 15 (by decide)) (h 17 (by decide)) (h 18 (by decide)) (h 19 (by decide)) (rz_I_3 hI s f s0 s1 f0 f1 ht)
theorem rz_I_cut {g k : Int} (hW : pz_W S) (hI : pz_I S) (hk : 1 ≤ k) (hg0 : 0 ≤ g) (hg : g ≤ S 10 s - k) (hs0 : 0 ≤ s) (hs1 : s < S 9 0) : pz_I (pz_cut S s g k) := by
  rw [rz_cut_e]
  exact rz_I_t (fun x hx => rz_c2_t (fun e => by rw [e] at hx; exact absurd hx (by decide)) (fun e => by rw [e] at hx; exact absurd hx (by decide)) _ _ _) (rz_I_ct hW hI hk hg0 hg hs0 hs1)
theorem rz_J_cut {g k : Int} (hW : pz_W S) (hJ : rz_J S) (hk : 1 ≤ k) (hg0 : 0 ≤ g) (hg : g ≤ S 10 s - k) (hs0 : 0 ≤ s) (hs1 : s < S 9 0) : rz_J (pz_cut S s g k) := by
  rw [rz_cut_e]
  have w10 := pw_10 hW s
  have w21 := pw_21 hW 0
  have tt : ∀ x, x ∉ [10, 15, 16, 17, 18, 19, 23, 25] → pz_c2 s g k (S 10 s - k) (S 21 0).toNat 0 (rz_ct S s g k) x = S x := fun x hx => (rz_c2_t (fun e => hx (by rw [e]; decide)) (fun e => hx (by rw [e]; decide)) _ _ _).trans (rz_ct_t (fun e => hx (by rw [e]; decide)) (fun e => hx (by rw [e]; decide)) (fun e => hx (by rw [e]; decide)) (fun e => hx (by rw [e]; decide)) (fun e => hx (by rw [e]; decide)) (fun e => hx (by rw [e]; decide)))
  refine ⟨?_, ?_, ?_, ?_⟩
  · rw [tt 1 (by decide), tt 2 (by decide), tt 3 (by decide)]; exact hJ.1
  · rw [tt 3 (by decide), tt 4 (by decide), tt 5 (by decide), tt 6 (by decide), tt 7 (by decide), tt 8 (by decide)]; exact hJ.2.1
  · rw [tt 9 (by decide), tt 11 (by decide), rz_c2_t (by decide) (by decide)]
    intro s' h1 h2
    refine ⟨fun f' g1 g2 => ?_, (hJ.2.2.1 s' h1 h2).2⟩
    rw [rz_ct_16 hk hg, if_neg (by omega)]
    exact (hJ.2.2.1 s' h1 h2).1 f' g1 g2
  · rw [tt 21 (by decide), tt 24 (by decide)]
    intro n n1 n2
    refine ⟨(hJ.2.2.2 n n1 n2).1, ?_⟩
    rw [rz_c2_25 _ _ _ _ (by omega), rz_ct_t (by decide) (by decide) (by decide) (by decide) (by decide) (by decide)]
    exact (hJ.2.2.2 n n1 n2).2
end
