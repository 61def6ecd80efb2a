/-! ints: iI of an Int is its Int32; comparisons within the range -/
def iI (x : Int) : Int32 := Int32.ofInt x
theorem pz_toInt {x : Int} (h1 : -2147483648 ≤ x) (h2 : x ≤ 2147483647) : (iI x).toInt = x := by
  exact Int32.toInt_ofInt_of_le h1 (show x < 2147483648 by omega)
theorem pz_of (x : Int32) : iI x.toInt = x := Int32.ofInt_toInt x
theorem pz_lo (x : Int32) : -2147483648 ≤ x.toInt := x.minValue_le_toInt
theorem pz_hi (x : Int32) : x.toInt ≤ 2147483647 := x.toInt_le
theorem pz_ex (x : Int32) : ∃ i : Int, x = iI i ∧ -2147483648 ≤ i ∧ i ≤ 2147483647 := ⟨x.toInt, (pz_of x).symm, pz_lo x, pz_hi x⟩
theorem pz_add (x y : Int) : iI x + iI y = iI (x + y) := (Int32.ofInt_add x y).symm
theorem pz_mul (x y : Int) : iI x * iI y = iI (x * y) := (Int32.ofInt_mul x y).symm
theorem pz_neg (x : Int) : -iI x = iI (-x) := (Int32.ofInt_neg x).symm
theorem pz_sub (x y : Int) : iI x - iI y = iI (x - y) := (Int32.ofInt_sub x y).symm
theorem pz_lt {x y : Int} (h1 : -2147483648 ≤ x) (h2 : x ≤ 2147483647) (h3 : -2147483648 ≤ y) (h4 : y ≤ 2147483647) : (iI x < iI y) = (x < y) := by
  rw [Int32.lt_iff_toInt_lt, pz_toInt h1 h2, pz_toInt h3 h4]
theorem pz_le {x y : Int} (h1 : -2147483648 ≤ x) (h2 : x ≤ 2147483647) (h3 : -2147483648 ≤ y) (h4 : y ≤ 2147483647) : (iI x ≤ iI y) = (x ≤ y) := by
  rw [Int32.le_iff_toInt_le, pz_toInt h1 h2, pz_toInt h3 h4]
theorem pz_eq {x y : Int} (h1 : -2147483648 ≤ x) (h2 : x ≤ 2147483647) (h3 : -2147483648 ≤ y) (h4 : y ≤ 2147483647) : (iI x = iI y) = (x = y) := propext ⟨fun h => by rw [← pz_toInt h1 h2, h, pz_toInt h3 h4], fun h => by rw [h]⟩
theorem pz_nat {x : Int} (h1 : 0 ≤ x) (h2 : x ≤ 2147483647) : (iI x).toNatClampNeg = x.toNat := by
  show (iI x).toInt.toNat = _
  rw [pz_toInt (by omega) h2]
theorem pz_ix {x : Int} (h1 : 0 ≤ x) (h2 : x ≤ 2147483647) : (((iI x).toNatClampNeg : Nat) : Int) = x := by
  rw [pz_nat h1 h2]; omega
theorem pz_tdiv {x y : Int} (h1 : -2147483648 ≤ x) (h2 : x ≤ 2147483647) (h3 : 1 ≤ y) (h4 : y ≤ 2147483647) : iI x / iI y = iI (x.tdiv y) := (Int32.ofInt_tdiv h1 h2 (show -2147483648 ≤ y by omega) h4).symm
/-- rounded down, as the reference does it -/
theorem pz_dn {v b : Int} (h : v < 0) (hb : 1 ≤ b) : -((-v + b - 1).tdiv b) = v / b := by
  rw [Int.tdiv_eq_ediv_of_nonneg (by omega)]
  have e := Int.mul_ediv_add_emod v b
  have r0 := Int.emod_nonneg v (show b ≠ 0 by omega)
  have r1 := Int.emod_lt_of_pos v (show 0 < b by omega)
  have g : -v + b - 1 = (b - 1 - v % b) + b * (-(v / b)) := by
    rw [Int.mul_neg]; omega
  rw [g, Int.add_mul_ediv_left _ _ (show b ≠ 0 by omega), Int.ediv_eq_zero_of_lt (by omega) (by omega)]
  omega
def pz_b (c : Prop) [Decidable c] : Int := if c then 1 else 0
theorem pz_b0 {c : Prop} [Decidable c] : (iI (pz_b c) = iI 0) = ¬c := by
  unfold pz_b
  by_cases h : c
  · simp only [if_pos h, h, not_true_eq_false, eq_iff_iff, iff_false]; decide
  · rw [if_neg h]; exact propext ⟨fun _ => h, fun _ => rfl⟩
theorem pz_b1 {c : Prop} [Decidable c] : (iI (pz_b c) = iI 1) = c := by
  unfold pz_b
  by_cases h : c
  · rw [if_pos h]; exact propext ⟨fun _ => h, fun _ => rfl⟩
  · simp only [if_neg h, h, eq_iff_iff, iff_false]; decide
theorem pz_bb {c : Prop} [Decidable c] : (¬c ∨ c) = True := by
  by_cases h : c
  · simp [h]
  · simp [h]
theorem pz_bt {c : Prop} [Decidable c] (h : c) : pz_b c = 1 := if_pos h
theorem pz_bf {c : Prop} [Decidable c] (h : ¬c) : pz_b c = 0 := if_neg h
theorem pz_n0 : (0 : Int32) = iI 0 := rfl
theorem pz_n1 : (1 : Int32) = iI 1 := rfl
theorem pz_n2 : (2 : Int32) = iI 2 := rfl
theorem pz_n3 : (3 : Int32) = iI 3 := rfl
theorem pz_n4 : (4 : Int32) = iI 4 := rfl
theorem pz_n5 : (5 : Int32) = iI 5 := rfl
theorem pz_n6 : (6 : Int32) = iI 6 := rfl
theorem pz_n7 : (7 : Int32) = iI 7 := rfl
theorem pz_n8 : (8 : Int32) = iI 8 := rfl
theorem pz_n10 : (10 : Int32) = iI 10 := rfl
theorem pz_n12 : (12 : Int32) = iI 12 := rfl
theorem pz_n39 : (39 : Int32) = iI 39 := rfl
theorem pz_n40 : (40 : Int32) = iI 40 := rfl
theorem pz_n80 : (80 : Int32) = iI 80 := rfl
theorem pz_n99 : (99 : Int32) = iI 99 := rfl
theorem pz_n100 : (100 : Int32) = iI 100 := rfl
theorem pz_n999 : (999 : Int32) = iI 999 := rfl
theorem pz_nm1 : (-1 : Int32) = iI (-1) := rfl
theorem pz_nm999 : (-999 : Int32) = iI (-999) := rfl
/-! loops -/
def pz_it {α : Type} (f : Int → α → α) (a : Int) : Nat → α → α
  | 0, s => s
  | n + 1, s => pz_it f (a + 1) n (f a s)
theorem pz_loop {α : Type} {A : Int → α → Prop} {f : Int → α → α} {I : Int → α → Prop} {b : Int} (h : ∀ i s, i < b → I i s → A i s = A (i + 1) (f i s) ∧ I (i + 1) (f i s)) : ∀ (n : Nat) (i : Int) (s : α), i + n = b → I i s → A i s = A b (pz_it f i n s) ∧ I b (pz_it f i n s) := by
  intro n
  induction n with
  | zero => intro i s hb hi; have e : i = b := by omega
            subst e; exact ⟨rfl, hi⟩
  | succ n ih =>
    intro i s hb hi
    have g := h i s (by omega) hi
    have g2 := ih (i + 1) (f i s) (by omega) g.2
    exact ⟨g.1.trans g2.1, g2.2⟩
/-- sums over a, a + 1, .. -/
def pz_sm (f : Int → Int) (a : Int) : Nat → Int
  | 0 => 0
  | n + 1 => f a + pz_sm f (a + 1) n
theorem pz_suml {A : Int → Int → Prop} {f : Int → Int} {b : Int} : ∀ (n : Nat) (i s : Int), i + n = b → (∀ j t, i ≤ j → j < b → A j t = A (j + 1) (t + f j)) → A i s = A b (s + pz_sm f i n) := by
  intro n
  induction n with
  | zero => intro i s hb h; have e : i = b := by omega
            subst e; simp only [pz_sm, Int.add_zero]
  | succ n ih =>
    intro i s hb h
    rw [h i s (Int.le_refl i) (by omega), ih (i + 1) (s + f i) (by omega) (fun j t h1 h2 => h j t (by omega) h2)]
    simp only [pz_sm, Int.add_assoc]
theorem pz_sm_congr {f g : Int → Int} : ∀ (n : Nat) (a : Int), (∀ j, a ≤ j → j < a + n → f j = g j) → pz_sm f a n = pz_sm g a n := by
  intro n
  induction n with
  | zero => intro a h; rfl
  | succ n ih =>
    intro a h
    simp only [pz_sm]
    rw [h a (Int.le_refl a) (by omega), ih (a + 1) (fun j h1 h2 => h j (by omega) (by omega))]
/-- the first place from a on, within n, where c holds; a + n for none -/
def pz_fd (c : Int → Prop) [DecidablePred c] (a : Int) : Nat → Int
  | 0 => a
  | n + 1 => if c a then a else pz_fd c (a + 1) n
theorem pz_fdl {A : Int → Prop} {E : Int → Prop} {c : Int → Prop} [DecidablePred c] {b : Int} : ∀ (n : Nat) (i : Int), i + n = b → A b = E b → (∀ j, i ≤ j → j < b → A j = if c j then E j else A (j + 1)) → A i = E (pz_fd c i n) := by
  intro n
  induction n with
  | zero => intro i hb he h; have e : i = b := by omega
            subst e; exact he
  | succ n ih =>
    intro i hb he h
    rw [h i (Int.le_refl i) (by omega)]
    unfold pz_fd
    by_cases hc : c i
    · rw [if_pos hc, if_pos hc]
    · rw [if_neg hc, if_neg hc]
      exact ih (i + 1) (by omega) he (fun j h1 h2 => h j (by omega) h2)
theorem pz_fd_ge {c : Int → Prop} [DecidablePred c] : ∀ (n : Nat) (a : Int), a ≤ pz_fd c a n ∧ pz_fd c a n ≤ a + n := by
  intro n
  induction n with
  | zero => intro a; simp only [pz_fd]; omega
  | succ n ih =>
    intro a
    unfold pz_fd
    split
    · omega
    · have := ih (a + 1); omega
theorem pz_fd_no {c : Int → Prop} [DecidablePred c] : ∀ (n : Nat) (a j : Int), a ≤ j → j < pz_fd c a n → ¬c j := by
  intro n
  induction n with
  | zero => intro a j h1 h2; simp only [pz_fd] at h2; omega
  | succ n ih =>
    intro a j h1 h2
    unfold pz_fd at h2
    split at h2
    · omega
    · rename_i hc
      by_cases e : j = a
      · rw [e]; exact hc
      · exact ih (a + 1) j (by omega) h2
theorem pz_fd_yes {c : Int → Prop} [DecidablePred c] : ∀ (n : Nat) (a : Int), pz_fd c a n < a + n → c (pz_fd c a n) := by
  intro n
  induction n with
  | zero => intro a h; simp only [pz_fd] at h; omega
  | succ n ih =>
    intro a h
    unfold pz_fd at h ⊢
    split
    · assumption
    · rename_i hc
      rw [if_neg hc] at h
      exact ih (a + 1) (by omega)
theorem pz_gf {α : Type} {σ : mb_S} {a ci : Nat} {bad : α} {K : List Value → α} {fs : List Value} (h : σ.1 a = some (.inr (ci, fs))) : mb_gf σ a ci bad K = K fs := by
  unfold mb_gf
  rw [h]
  exact if_pos rfl
theorem pz_gi {α : Type} {σ : mb_S} {a kd n : Nat} {j : Int} {bad : α} {K : Nat → Nat → (Nat → Int32) → α} {f : Nat → Int32} (h : σ.1 a = some (.inl (kd, n, .inl f))) (h1 : 0 ≤ j) (h2 : j < n) (h3 : j ≤ 2147483647) : mb_gi σ a (iI j) bad K = K kd n f := by
  unfold mb_gi
  rw [h]
  refine if_neg ?_
  rw [pz_nat h1 h3, pz_n0, pz_lt (by omega) (by omega) (by omega) (by omega)]
  omega
theorem pz_gq {α : Type} {σ : mb_S} {a kd n : Nat} {j : Int} {bad : α} {K : Nat → Nat → (Nat → Option Nat) → α} {f : Nat → Option Nat} (h : σ.1 a = some (.inl (kd, n, .inr (.inr (.inr (.inr f)))))) (h1 : 0 ≤ j) (h2 : j < n) (h3 : j ≤ 2147483647) : mb_gq σ a (iI j) bad K = K kd n f := by
  unfold mb_gq
  rw [h]
  refine if_neg ?_
  rw [pz_nat h1 h3, pz_n0, pz_lt (by omega) (by omega) (by omega) (by omega)]
  omega
