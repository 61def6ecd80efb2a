/-! ints: iI of an Int is its Int32; comparisons within the range -/
def iI (x : Int) : Int32 := Int32.ofInt x
theorem pz_toInt {x : Int} (h1 : -2147483648 ≤ x) (h2 : x ≤ 2147483647) : (iI x).toInt = x := by
  exact Int32.toInt_ofInt_of_le h1 (show x < 2147483648 by omega)
theorem pz_of (x : Int32) : iI x.toInt = x := Int32.ofInt_toInt x
theorem pz_add (x y : Int) : iI x + iI y = iI (x + y) := (Int32.ofInt_add x y).symm
theorem pz_mul (x y : Int) : iI x * iI y = iI (x * y) := (Int32.ofInt_mul x y).symm
theorem pz_neg (x : Int) : -iI x = iI (-x) := (Int32.ofInt_neg x).symm
theorem pz_sub (x y : Int) : iI x - iI y = iI (x - y) := (Int32.ofInt_sub x y).symm
theorem pz_lt {x y : Int} (h1 : -2147483648 ≤ x) (h2 : x ≤ 2147483647) (h3 : -2147483648 ≤ y) (h4 : y ≤ 2147483647) : (iI x < iI y) = (x < y) := by
  rw [Int32.lt_iff_toInt_lt, pz_toInt h1 h2, pz_toInt h3 h4]
theorem pz_le {x y : Int} (h1 : -2147483648 ≤ x) (h2 : x ≤ 2147483647) (h3 : -2147483648 ≤ y) (h4 : y ≤ 2147483647) : (iI x ≤ iI y) = (x ≤ y) := by
  rw [Int32.le_iff_toInt_le, pz_toInt h1 h2, pz_toInt h3 h4]
theorem pz_eq {x y : Int} (h1 : -2147483648 ≤ x) (h2 : x ≤ 2147483647) (h3 : -2147483648 ≤ y) (h4 : y ≤ 2147483647) : (iI x = iI y) = (x = y) := propext ⟨fun h => by rw [← pz_toInt h1 h2, h, pz_toInt h3 h4], fun h => by rw [h]⟩
theorem pz_nat {x : Int} (h1 : 0 ≤ x) (h2 : x ≤ 2147483647) : (iI x).toNatClampNeg = x.toNat := by
  show (iI x).toInt.toNat = _
  rw [pz_toInt (by omega) h2]
theorem pz_ix {x : Int} (h1 : 0 ≤ x) (h2 : x ≤ 2147483647) : (((iI x).toNatClampNeg : Nat) : Int) = x := by
  rw [pz_nat h1 h2]; omega
theorem pz_tdiv {x y : Int} (h1 : -2147483648 ≤ x) (h2 : x ≤ 2147483647) (h3 : 1 ≤ y) (h4 : y ≤ 2147483647) : iI x / iI y = iI (x.tdiv y) := (Int32.ofInt_tdiv h1 h2 (show -2147483648 ≤ y by omega) h4).symm
def pz_b (c : Prop) [Decidable c] : Int := if c then 1 else 0
theorem pz_b0 {c : Prop} [Decidable c] : (iI (pz_b c) = iI 0) = ¬c := by
  unfold pz_b
  by_cases h : c
  · simp only [if_pos h, h, not_true_eq_false, eq_iff_iff, iff_false]; decide
  · rw [if_neg h]; exact propext ⟨fun _ => h, fun _ => rfl⟩
theorem pz_b1 {c : Prop} [Decidable c] : (iI (pz_b c) = iI 1) = c := by
  unfold pz_b
  by_cases h : c
  · rw [if_pos h]; exact propext ⟨fun _ => h, fun _ => rfl⟩
  · simp only [if_neg h, h, eq_iff_iff, iff_false]; decide
theorem pz_bb {c : Prop} [Decidable c] : (¬c ∨ c) = True := by
  by_cases h : c
  · simp [h]
  · simp [h]
theorem pz_bt {c : Prop} [Decidable c] (h : c) : pz_b c = 1 := if_pos h
theorem pz_bf {c : Prop} [Decidable c] (h : ¬c) : pz_b c = 0 := if_neg h
theorem pz_n0 : (0 : Int32) = iI 0 := rfl
theorem pz_n1 : (1 : Int32) = iI 1 := rfl
theorem pz_n2 : (2 : Int32) = iI 2 := rfl
theorem pz_n3 : (3 : Int32) = iI 3 := rfl
theorem pz_n4 : (4 : Int32) = iI 4 := rfl
theorem pz_n5 : (5 : Int32) = iI 5 := rfl
theorem pz_n6 : (6 : Int32) = iI 6 := rfl
theorem pz_n7 : (7 : Int32) = iI 7 := rfl
theorem pz_n8 : (8 : Int32) = iI 8 := rfl
theorem pz_n10 : (10 : Int32) = iI 10 := rfl
theorem pz_n12 : (12 : Int32) = iI 12 := rfl
theorem pz_n39 : (39 : Int32) = iI 39 := rfl
theorem pz_n40 : (40 : Int32) = iI 40 := rfl
theorem pz_n80 : (80 : Int32) = iI 80 := rfl
theorem pz_n99 : (99 : Int32) = iI 99 := rfl
theorem pz_n100 : (100 : Int32) = iI 100 := rfl
theorem pz_n999 : (999 : Int32) = iI 999 := rfl
theorem pz_nm1 : (-1 : Int32) = iI (-1) := rfl
theorem pz_nm999 : (-999 : Int32) = iI (-999) := rfl
/-! loops -/
/-- sums over a, a + 1, .. -/
def pz_sm (f : Int → Int) (a : Int) : Nat → Int
  | 0 => 0
  | n + 1 => f a + pz_sm f (a + 1) n
theorem pz_sm_congr {f g : Int → Int} : ∀ (n : Nat) (a : Int), (∀ j, a ≤ j → j < a + n → f j = g j) → pz_sm f a n = pz_sm g a n := by
  intro n
  induction n with
  | zero => intro a h; rfl
  | succ n ih =>
    intro a h
    simp only [pz_sm]
    rw [h a (Int.le_refl a) (by omega), ih (a + 1) (fun j h1 h2 => h j (by omega) (by omega))]
/-- the first place from a on, within n, where c holds; a + n for none -/
def pz_fd (c : Int → Prop) [DecidablePred c] (a : Int) : Nat → Int
  | 0 => a
  | n + 1 => if c a then a else pz_fd c (a + 1) n
theorem pz_fdl {A : Int → Prop} {E : Int → Prop} {c : Int → Prop} [DecidablePred c] {b : Int} : ∀ (n : Nat) (i : Int), i + n = b → A b = E b → (∀ j, i ≤ j → j < b → A j = if c j then E j else A (j + 1)) → A i = E (pz_fd c i n) := by
  intro n
  induction n with
  | zero => intro i hb he h; have e : i = b := by omega
            subst e; exact he
  | succ n ih =>
    intro i hb he h
    rw [h i (Int.le_refl i) (by omega)]
    unfold pz_fd
    by_cases hc : c i
    · rw [if_pos hc, if_pos hc]
    · rw [if_neg hc, if_neg hc]
      exact ih (i + 1) (by omega) he (fun j h1 h2 => h j (by omega) h2)
theorem pz_fd_ge {c : Int → Prop} [DecidablePred c] : ∀ (n : Nat) (a : Int), a ≤ pz_fd c a n ∧ pz_fd c a n ≤ a + n := by
  intro n
  induction n with
  | zero => intro a; simp only [pz_fd]; omega
  | succ n ih =>
    intro a
    unfold pz_fd
    split
    · omega
    · have := ih (a + 1); omega
theorem pz_fd_no {c : Int → Prop} [DecidablePred c] : ∀ (n : Nat) (a j : Int), a ≤ j → j < pz_fd c a n → ¬c j := by
  intro n
  induction n with
  | zero => intro a j h1 h2; simp only [pz_fd] at h2; omega
  | succ n ih =>
    intro a j h1 h2
    unfold pz_fd at h2
    split at h2
    · omega
    · rename_i hc
      by_cases e : j = a
      · rw [e]; exact hc
      · exact ih (a + 1) j (by omega) h2
theorem pz_fd_yes {c : Int → Prop} [DecidablePred c] : ∀ (n : Nat) (a : Int), pz_fd c a n < a + n → c (pz_fd c a n) := by
  intro n
  induction n with
  | zero => intro a h; simp only [pz_fd] at h; omega
  | succ n ih =>
    intro a h
    unfold pz_fd at h ⊢
    split
    · assumption
    · rename_i hc
      rw [if_neg hc] at h
      exact ih (a + 1) (by omega)
theorem pz_gf {α : Type} {σ : mb_S} {a ci : Nat} {bad : α} {K : List Value → α} {fs : List Value} (h : σ.1 a = some (.inr (ci, fs))) : mb_gf σ a ci bad K = K fs := by
  unfold mb_gf
  rw [h]
  exact if_pos rfl
theorem pz_gi {α : Type} {σ : mb_S} {a kd n : Nat} {j : Int} {bad : α} {K : Nat → Nat → (Nat → Int32) → α} {f : Nat → Int32} (h : σ.1 a = some (.inl (kd, n, .inl f))) (h1 : 0 ≤ j) (h2 : j < n) (h3 : j ≤ 2147483647) : mb_gi σ a (iI j) bad K = K kd n f := by
  unfold mb_gi
  rw [h]
  refine if_neg ?_
  rw [pz_nat h1 h3, pz_n0, pz_lt (by omega) (by omega) (by omega) (by omega)]
  omega
theorem pz_gq {α : Type} {σ : mb_S} {a kd n : Nat} {j : Int} {bad : α} {K : Nat → Nat → (Nat → Option Nat) → α} {f : Nat → Option Nat} (h : σ.1 a = some (.inl (kd, n, .inr (.inr (.inr (.inr f)))))) (h1 : 0 ≤ j) (h2 : j < n) (h3 : j ≤ 2147483647) : mb_gq σ a (iI j) bad K = K kd n f := by
  unfold mb_gq
  rw [h]
  refine if_neg ?_
  rw [pz_nat h1 h3, pz_n0, pz_lt (by omega) (by omega) (by omega) (by omega)]
  omega
/-! THE REFERENCE: its cells lie at m .. m + 21, and hold a state S: the number of a field, then the index -/
abbrev pz_S : Type := Nat → Int → Int
def pz_su (S : pz_S) (t : Nat) (i v : Int) : pz_S := fun t' i' => if t' = t ∧ i' = i then v else S t' i'
theorem pz_su_t {S : pz_S} {t t' : Nat} {i v : Int} (h : t' ≠ t) : pz_su S t i v t' = S t' := by
  funext i'
  unfold pz_su
  rw [if_neg (fun c => h c.1)]
theorem pz_su_e {S : pz_S} {t : Nat} {i v : Int} : pz_su S t i v t i = v := if_pos ⟨rfl, rfl⟩
theorem pz_su_i {S : pz_S} {t : Nat} {i i' v : Int} : pz_su S t i v t i' = if i' = i then v else S t i' := by
  unfold pz_su
  by_cases h : i' = i
  · rw [if_pos ⟨rfl, h⟩, if_pos h]
  · rw [if_neg (fun c => h c.2), if_neg h]
/-! the bounds of what the reference holds -/
def pz_bl : Nat → Int
  | 4 => -1
  | 7 => -999
  | 12 => -1
  | 17 => -1
  | _ => 0
def pz_bh : Nat → Int
  | 0 => 3
  | 1 => 8
  | 2 => 12
  | 3 => 10
  | 4 => 9
  | 5 => 12
  | 6 => 99
  | 7 => 999
  | 8 => 2
  | 9 => 8
  | 10 => 40
  | 11 => 1
  | 12 => 11
  | 13 => 39
  | 14 => 39
  | 15 => 39
  | 16 => 1000000000
  | 17 => 11
  | 18 => 10
  | 20 => 1000000000
  | 21 => 40
  | 22 => 7
  | 23 => 39
  | 24 => 1
  | 25 => 1000000000
  | _ => 0
def pz_fr (t : Nat) : Bool := t == 19 || t == 20 || t == 25
def pz_W (S : pz_S) : Prop := ∀ (t : Nat) (i : Int), pz_fr t = false → t < 26 → pz_bl t ≤ S t i ∧ S t i ≤ pz_bh t
theorem pw_su {S : pz_S} {t : Nat} {j v : Int} (h : pz_W S) (h1 : pz_fr t = true ∨ (pz_bl t ≤ v ∧ v ≤ pz_bh t)) : pz_W (pz_su S t j v) := by
  intro t' i g1 g2
  unfold pz_su
  by_cases c : t' = t ∧ i = j
  · rw [if_pos c]
    cases h1 with
    | inl e => rw [c.1, e] at g1; cases g1
    | inr e => rw [c.1]; exact e
  · rw [if_neg c]; exact h t' i g1 g2
theorem pw_1 {S : pz_S} (h : pz_W S) (i : Int) : 0 ≤ S 1 i ∧ S 1 i ≤ 8 := h 1 i (by decide) (by decide)
theorem pws_1 {S : pz_S} {j v : Int} (h : pz_W S) (h1 : 0 ≤ v) (h2 : v ≤ 8) : pz_W (pz_su S 1 j v) := pw_su h (Or.inr ⟨h1, h2⟩)
theorem pw_2 {S : pz_S} (h : pz_W S) (i : Int) : 0 ≤ S 2 i ∧ S 2 i ≤ 12 := h 2 i (by decide) (by decide)
theorem pws_2 {S : pz_S} {j v : Int} (h : pz_W S) (h1 : 0 ≤ v) (h2 : v ≤ 12) : pz_W (pz_su S 2 j v) := pw_su h (Or.inr ⟨h1, h2⟩)
theorem pw_3 {S : pz_S} (h : pz_W S) (i : Int) : 0 ≤ S 3 i ∧ S 3 i ≤ 10 := h 3 i (by decide) (by decide)
theorem pws_3 {S : pz_S} {j v : Int} (h : pz_W S) (h1 : 0 ≤ v) (h2 : v ≤ 10) : pz_W (pz_su S 3 j v) := pw_su h (Or.inr ⟨h1, h2⟩)
theorem pw_4 {S : pz_S} (h : pz_W S) (i : Int) : -1 ≤ S 4 i ∧ S 4 i ≤ 9 := h 4 i (by decide) (by decide)
theorem pws_4 {S : pz_S} {j v : Int} (h : pz_W S) (h1 : -1 ≤ v) (h2 : v ≤ 9) : pz_W (pz_su S 4 j v) := pw_su h (Or.inr ⟨h1, h2⟩)
theorem pw_5 {S : pz_S} (h : pz_W S) (i : Int) : 0 ≤ S 5 i ∧ S 5 i ≤ 12 := h 5 i (by decide) (by decide)
theorem pws_5 {S : pz_S} {j v : Int} (h : pz_W S) (h1 : 0 ≤ v) (h2 : v ≤ 12) : pz_W (pz_su S 5 j v) := pw_su h (Or.inr ⟨h1, h2⟩)
theorem pw_6 {S : pz_S} (h : pz_W S) (i : Int) : 0 ≤ S 6 i ∧ S 6 i ≤ 99 := h 6 i (by decide) (by decide)
theorem pws_6 {S : pz_S} {j v : Int} (h : pz_W S) (h1 : 0 ≤ v) (h2 : v ≤ 99) : pz_W (pz_su S 6 j v) := pw_su h (Or.inr ⟨h1, h2⟩)
theorem pw_7 {S : pz_S} (h : pz_W S) (i : Int) : -999 ≤ S 7 i ∧ S 7 i ≤ 999 := h 7 i (by decide) (by decide)
theorem pws_7 {S : pz_S} {j v : Int} (h : pz_W S) (h1 : -999 ≤ v) (h2 : v ≤ 999) : pz_W (pz_su S 7 j v) := pw_su h (Or.inr ⟨h1, h2⟩)
theorem pw_8 {S : pz_S} (h : pz_W S) (i : Int) : 0 ≤ S 8 i ∧ S 8 i ≤ 2 := h 8 i (by decide) (by decide)
theorem pws_8 {S : pz_S} {j v : Int} (h : pz_W S) (h1 : 0 ≤ v) (h2 : v ≤ 2) : pz_W (pz_su S 8 j v) := pw_su h (Or.inr ⟨h1, h2⟩)
theorem pw_9 {S : pz_S} (h : pz_W S) (i : Int) : 0 ≤ S 9 i ∧ S 9 i ≤ 8 := h 9 i (by decide) (by decide)
theorem pws_9 {S : pz_S} {j v : Int} (h : pz_W S) (h1 : 0 ≤ v) (h2 : v ≤ 8) : pz_W (pz_su S 9 j v) := pw_su h (Or.inr ⟨h1, h2⟩)
theorem pw_10 {S : pz_S} (h : pz_W S) (i : Int) : 0 ≤ S 10 i ∧ S 10 i ≤ 40 := h 10 i (by decide) (by decide)
theorem pws_10 {S : pz_S} {j v : Int} (h : pz_W S) (h1 : 0 ≤ v) (h2 : v ≤ 40) : pz_W (pz_su S 10 j v) := pw_su h (Or.inr ⟨h1, h2⟩)
theorem pw_11 {S : pz_S} (h : pz_W S) (i : Int) : 0 ≤ S 11 i ∧ S 11 i ≤ 1 := h 11 i (by decide) (by decide)
theorem pws_11 {S : pz_S} {j v : Int} (h : pz_W S) (h1 : 0 ≤ v) (h2 : v ≤ 1) : pz_W (pz_su S 11 j v) := pw_su h (Or.inr ⟨h1, h2⟩)
theorem pw_12 {S : pz_S} (h : pz_W S) (i : Int) : -1 ≤ S 12 i ∧ S 12 i ≤ 11 := h 12 i (by decide) (by decide)
theorem pws_12 {S : pz_S} {j v : Int} (h : pz_W S) (h1 : -1 ≤ v) (h2 : v ≤ 11) : pz_W (pz_su S 12 j v) := pw_su h (Or.inr ⟨h1, h2⟩)
theorem pw_13 {S : pz_S} (h : pz_W S) (i : Int) : 0 ≤ S 13 i ∧ S 13 i ≤ 39 := h 13 i (by decide) (by decide)
theorem pws_13 {S : pz_S} {j v : Int} (h : pz_W S) (h1 : 0 ≤ v) (h2 : v ≤ 39) : pz_W (pz_su S 13 j v) := pw_su h (Or.inr ⟨h1, h2⟩)
theorem pw_14 {S : pz_S} (h : pz_W S) (i : Int) : 0 ≤ S 14 i ∧ S 14 i ≤ 39 := h 14 i (by decide) (by decide)
theorem pws_14 {S : pz_S} {j v : Int} (h : pz_W S) (h1 : 0 ≤ v) (h2 : v ≤ 39) : pz_W (pz_su S 14 j v) := pw_su h (Or.inr ⟨h1, h2⟩)
theorem pw_15 {S : pz_S} (h : pz_W S) (i : Int) : 0 ≤ S 15 i ∧ S 15 i ≤ 39 := h 15 i (by decide) (by decide)
theorem pws_15 {S : pz_S} {j v : Int} (h : pz_W S) (h1 : 0 ≤ v) (h2 : v ≤ 39) : pz_W (pz_su S 15 j v) := pw_su h (Or.inr ⟨h1, h2⟩)
theorem pw_16 {S : pz_S} (h : pz_W S) (i : Int) : 0 ≤ S 16 i ∧ S 16 i ≤ 1000000000 := h 16 i (by decide) (by decide)
theorem pws_16 {S : pz_S} {j v : Int} (h : pz_W S) (h1 : 0 ≤ v) (h2 : v ≤ 1000000000) : pz_W (pz_su S 16 j v) := pw_su h (Or.inr ⟨h1, h2⟩)
theorem pw_17 {S : pz_S} (h : pz_W S) (i : Int) : -1 ≤ S 17 i ∧ S 17 i ≤ 11 := h 17 i (by decide) (by decide)
theorem pws_17 {S : pz_S} {j v : Int} (h : pz_W S) (h1 : -1 ≤ v) (h2 : v ≤ 11) : pz_W (pz_su S 17 j v) := pw_su h (Or.inr ⟨h1, h2⟩)
theorem pw_18 {S : pz_S} (h : pz_W S) (i : Int) : 0 ≤ S 18 i ∧ S 18 i ≤ 10 := h 18 i (by decide) (by decide)
theorem pws_18 {S : pz_S} {j v : Int} (h : pz_W S) (h1 : 0 ≤ v) (h2 : v ≤ 10) : pz_W (pz_su S 18 j v) := pw_su h (Or.inr ⟨h1, h2⟩)
theorem pws_20 {S : pz_S} {j v : Int} (h : pz_W S) : pz_W (pz_su S 20 j v) := pw_su h (Or.inl rfl)
theorem pw_21 {S : pz_S} (h : pz_W S) (i : Int) : 0 ≤ S 21 i ∧ S 21 i ≤ 40 := h 21 i (by decide) (by decide)
theorem pws_21 {S : pz_S} {j v : Int} (h : pz_W S) (h1 : 0 ≤ v) (h2 : v ≤ 40) : pz_W (pz_su S 21 j v) := pw_su h (Or.inr ⟨h1, h2⟩)
theorem pw_22 {S : pz_S} (h : pz_W S) (i : Int) : 0 ≤ S 22 i ∧ S 22 i ≤ 7 := h 22 i (by decide) (by decide)
theorem pws_22 {S : pz_S} {j v : Int} (h : pz_W S) (h1 : 0 ≤ v) (h2 : v ≤ 7) : pz_W (pz_su S 22 j v) := pw_su h (Or.inr ⟨h1, h2⟩)
theorem pw_23 {S : pz_S} (h : pz_W S) (i : Int) : 0 ≤ S 23 i ∧ S 23 i ≤ 39 := h 23 i (by decide) (by decide)
theorem pws_23 {S : pz_S} {j v : Int} (h : pz_W S) (h1 : 0 ≤ v) (h2 : v ≤ 39) : pz_W (pz_su S 23 j v) := pw_su h (Or.inr ⟨h1, h2⟩)
theorem pw_24 {S : pz_S} (h : pz_W S) (i : Int) : 0 ≤ S 24 i ∧ S 24 i ≤ 1 := h 24 i (by decide) (by decide)
theorem pws_24 {S : pz_S} {j v : Int} (h : pz_W S) (h1 : 0 ≤ v) (h2 : v ≤ 1) : pz_W (pz_su S 24 j v) := pw_su h (Or.inr ⟨h1, h2⟩)
theorem pws_25 {S : pz_S} {j v : Int} (h : pz_W S) : pz_W (pz_su S 25 j v) := pw_su h (Or.inl rfl)
theorem pws_19 {S : pz_S} {j v : Int} (h : pz_W S) : pz_W (pz_su S 19 j v) := pw_su h (Or.inl rfl)
abbrev pz_rg (a v : Int) : Int := if v = -1 then a else 8 + 12 * a + v
abbrev pz_isF (S : pz_S) (s f : Int) : Prop := (0 ≤ s ∧ s ≤ S 9 0 - 1) ∧ 0 ≤ f ∧ f ≤ S 10 s - 1
abbrev pz_isR (S : pz_S) (a v : Int) : Prop := (0 ≤ a ∧ a ≤ S 1 0 - 1) ∧ -1 ≤ v ∧ v ≤ S 2 a - 1
abbrev pz_isB (S : pz_S) (a v b : Int) : Prop := pz_isR S a v ∧ 0 ≤ b ∧ b ≤ S 3 (pz_rg a v) - 1
def pz_kA (S : pz_S) (B f : Int) : Int := pz_fd (fun k => ¬ S 6 (12 * B + k) < f) 0 (S 5 B).toNat
theorem pz_kA_r {S : pz_S} (hW : pz_W S) (B f : Int) : 0 ≤ pz_kA S B f ∧ pz_kA S B f ≤ S 5 B := by
  have w := pw_5 hW B
  have g := pz_fd_ge (c := fun k => ¬ S 6 (12 * B + k) < f) (S 5 B).toNat 0
  unfold pz_kA
  omega
abbrev pz_iK (S : pz_S) (B f : Int) : Prop := pz_kA S B f < S 5 B ∧ S 6 (12 * B + pz_kA S B f) = f
/-! the reference: values, poses, assets -/
theorem pz_mb {x y : Int} {X Y : Nat} (hx : x.natAbs ≤ X) (hy : y.natAbs ≤ Y) : (x * y).natAbs ≤ X * Y := by
  rw [Int.natAbs_mul]; exact Nat.mul_le_mul hx hy
theorem pz_sq {x : Int} (h1 : 1 ≤ x) (h2 : x ≤ 99) : 1 ≤ x * x ∧ x * x ≤ 9801 := by
  have g1 := Int.mul_le_mul h1 h1 (by omega) (by omega)
  have g2 := Int.mul_le_mul h2 h2 (by omega) (by omega)
  omega
/-- sorted keys; parents told ahead -/
def pz_V (S : pz_S) : Prop := (∀ B k : Int, 0 ≤ B → B < 1040 → 0 ≤ k → k + 1 < S 5 B → S 6 (12 * B + k) < S 6 (12 * B + k + 1)) ∧ (∀ r b : Int, 0 ≤ r → r < 104 → 0 ≤ b → b < S 3 r → S 4 (10 * r + b) < b)
def pz_vA (w p q f0 f1 f : Int) : Int := p + (if w = 1 then ((q - p) * (f - f0)) / (f1 - f0) else ((q - p) * (f - f0) * (f - f0)) / ((f1 - f0) * (f1 - f0)))
def pz_val (S : pz_S) (B f : Int) : Int := if S 5 B = 0 then 0 else if pz_kA S B (f + 1) = 0 then S 7 (12 * B) else if pz_kA S B (f + 1) = S 5 B ∨ S 8 (12 * B + (pz_kA S B (f + 1) - 1)) = 0 then S 7 (12 * B + (pz_kA S B (f + 1) - 1)) else pz_vA (S 8 (12 * B + (pz_kA S B (f + 1) - 1))) (S 7 (12 * B + (pz_kA S B (f + 1) - 1))) (S 7 (12 * B + (pz_kA S B (f + 1) - 1) + 1)) (S 6 (12 * B + (pz_kA S B (f + 1) - 1))) (S 6 (12 * B + (pz_kA S B (f + 1) - 1) + 1)) f
def pz_po (S : pz_S) (r f : Int) : Nat → Int → Int
  | 0, _ => 0
  | n + 1, b => if b = -1 then 0 else pz_val S (10 * r + b) f + pz_po S r f n (S 4 (10 * r + b))
/-! the reference: keys -/
def pz_lay (S : pz_S) (k f v w : Int) : pz_S := pz_su (pz_su (pz_su S 6 k f) 7 k v) 8 k w
def pz_cp (S : pz_S) (i j : Int) : pz_S := pz_lay S j (S 6 i) (S 7 i) (S 8 i)
theorem pz_lay_t {S : pz_S} {k f v w : Int} {t : Nat} (h6 : t ≠ 6) (h7 : t ≠ 7) (h8 : t ≠ 8) : pz_lay S k f v w t = S t := by
  unfold pz_lay
  rw [pz_su_t h8, pz_su_t h7, pz_su_t h6]
theorem pz_cp_t {S : pz_S} {i j : Int} {t : Nat} (h6 : t ≠ 6) (h7 : t ≠ 7) (h8 : t ≠ 8) : pz_cp S i j t = S t := pz_lay_t h6 h7 h8
theorem pw_lay {S : pz_S} {k f v w : Int} (h : pz_W S) (f1 : 0 ≤ f) (f2 : f ≤ 99) (v1 : -999 ≤ v) (v2 : v ≤ 999) (w1 : 0 ≤ w) (w2 : w ≤ 2) : pz_W (pz_lay S k f v w) := pws_8 (pws_7 (pws_6 h f1 f2) v1 v2) w1 w2
theorem pw_cp {S : pz_S} {i j : Int} (h : pz_W S) : pz_W (pz_cp S i j) := pw_lay h (pw_6 h i).1 (pw_6 h i).2 (pw_7 h i).1 (pw_7 h i).2 (pw_8 h i).1 (pw_8 h i).2
/-- the keys from at on go up by one place -/
def pz_sh (B : Int) : Nat → Int → pz_S → pz_S
  | 0, _, S => S
  | n + 1, k, S => pz_sh B n (k - 1) (pz_cp S (12 * B + k - 1) (12 * B + k))
theorem pw_sh {B : Int} : ∀ (n : Nat) (k : Int) (S : pz_S), pz_W S → pz_W (pz_sh B n k S) := by
  intro n
  induction n with
  | zero => intro k S h; exact h
  | succ n ih => intro k S h; exact ih _ _ (pw_cp h)
theorem pz_sh_t {B : Int} {t : Nat} (h6 : t ≠ 6) (h7 : t ≠ 7) (h8 : t ≠ 8) : ∀ (n : Nat) (k : Int) (S : pz_S), pz_sh B n k S t = S t := by
  intro n
  induction n with
  | zero => intro k S; rfl
  | succ n ih => intro k S; exact (ih _ _).trans (pz_cp_t h6 h7 h8)
abbrev pz_are (f v w : Int) : Prop := (0 ≤ f ∧ f ≤ 99) ∧ (-999 ≤ v ∧ v ≤ 999) ∧ 0 ≤ w ∧ w ≤ 2
/-- how many keys move -/
abbrev pz_kn (S : pz_S) (B f : Int) : Nat := (S 5 B - pz_kA S B f).toNat
def pz_put (S : pz_S) (B f v w : Int) : pz_S := if pz_iK S B f then pz_lay S (12 * B + pz_kA S B f) f v w else pz_lay (pz_su (pz_sh B (pz_kn S B f) (S 5 B) S) 5 B (S 5 B + 1)) (12 * B + pz_kA S B f) f v w
/-! the reference: keys taken, versions, poses, scenes -/
def pz_sd (B : Int) : Nat → Int → pz_S → pz_S
  | 0, _, S => S
  | n + 1, k, S => pz_sd B n (k + 1) (pz_cp S (12 * B + k + 1) (12 * B + k))
theorem pw_sd {B : Int} : ∀ (n : Nat) (k : Int) (S : pz_S), pz_W S → pz_W (pz_sd B n k S) := by
  intro n
  induction n with
  | zero => intro k S h; exact h
  | succ n ih => intro k S h; exact ih _ _ (pw_cp h)
theorem pz_sd_t {B : Int} {t : Nat} (h6 : t ≠ 6) (h7 : t ≠ 7) (h8 : t ≠ 8) : ∀ (n : Nat) (k : Int) (S : pz_S), pz_sd B n k S t = S t := by
  intro n
  induction n with
  | zero => intro k S; rfl
  | succ n ih => intro k S; exact (ih _ _).trans (pz_cp_t h6 h7 h8)
/-! the reference: sums, scenes, casts, versions -/
/-- whether an asset is cast in a scene, as 0 or 1 -/
def pz_ca (S : pz_S) (a s : Int) : Int := pz_b (¬ S 11 (8 * s + a) = 0)
def pz_shw (c : Int) : Nat → Int → pz_S → pz_S
  | 0, _, S => S
  | n + 1, f, S => pz_shw c n (f + 1) (pz_su S 15 (40 * c + f) f)
theorem pz_shw_t {c : Int} {t : Nat} (h : t ≠ 15) : ∀ (n : Nat) (f : Int) (S : pz_S), pz_shw c n f S t = S t := by
  intro n
  induction n with
  | zero => intro f S; rfl
  | succ n ih => intro f S; exact (ih _ _).trans (pz_su_t h)
def pz_cst (S : pz_S) (c v f t : Int) : pz_S := pz_su (pz_su (pz_su (pz_su S 11 c 1) 12 c v) 13 c f) 14 c t
theorem pw_cst {S : pz_S} {c v f g : Int} (h : pz_W S) (h1 : -1 ≤ v) (h2 : v ≤ 11) (h3 : 0 ≤ f) (h4 : f ≤ 39) (h5 : 0 ≤ g) (h6 : g ≤ 39) : pz_W (pz_cst S c v f g) := pws_14 (pws_13 (pws_12 (pws_11 h (by decide) (by decide)) h1 h2) h3 h4) h5 h6
/-! the reference: notes, what is seen and needed -/
theorem pz_k0 : nI 0 = iI 0 := rfl
theorem pz_k1 : nI 1 = iI 1 := rfl
theorem pz_k2 : nI 2 = iI 2 := rfl
theorem pz_k3 : nI 3 = iI 3 := rfl
theorem pz_k4 : nI 4 = iI 4 := rfl
theorem pz_k5 : nI 5 = iI 5 := rfl
theorem pz_k6 : nI 6 = iI 6 := rfl
/-- whether a note counts as not settled, of a scene and a frame, or of any -/
def pz_un (S : pz_S) (s f k : Int) : Int := pz_b (S 24 k = 0 ∧ (s = -1 ∨ S 22 k = s) ∧ (f = -1 ∨ S 23 k = f))
abbrev pz_us (S : pz_S) (s f : Int) : Int := pz_sm (fun k => pz_un S s f k) 0 (S 21 0).toNat
def pz_sv (S : pz_S) (s f a : Int) : Int := if S 11 (8 * s + a) = 0 ∨ ¬ (S 13 (8 * s + a) ≤ S 15 (40 * s + f) ∧ S 15 (40 * s + f) ≤ S 14 (8 * s + a)) then -1 else if S 12 (8 * s + a) = -1 then S 2 a - 1 else S 12 (8 * s + a)
theorem pz_sv_r {S : pz_S} (hW : pz_W S) (s f a : Int) : -1 ≤ pz_sv S s f a ∧ pz_sv S s f a ≤ 11 := by
  have w0 := pw_12 hW (8 * s + a)
  have w1 := pw_2 hW a
  unfold pz_sv
  (repeat' split) <;> omega
def pz_sb (S : pz_S) (s f a : Int) : Int := if pz_sv S s f a = -1 then 0 else S 3 (8 + 12 * a + pz_sv S s f a)
/-- whether a bone is kept with another pose than it is seen with -/
abbrev pz_ok (S : pz_S) (s f a b : Int) : Prop := iI (S 19 (10 * (8 * (40 * s + f) + a) + b)) = iI (pz_po S (8 + 12 * a + pz_sv S s f a) (S 15 (40 * s + f)) 10 b)
abbrev pz_ak (S : pz_S) (s f a : Int) : Prop := pz_sb S s f a = S 18 (8 * (40 * s + f) + a) ∧ pz_fd (fun b => ¬ pz_ok S s f a b) 0 (pz_sb S s f a).toNat = pz_sb S s f a
/-! the reference: what is needed, mixed, counted -/
abbrev pz_nd (S : pz_S) (s f : Int) : Prop := S 16 (40 * s + f) = 0 ∨ ¬ pz_fd (fun a => ¬ pz_ak S s f a) 0 (S 1 0).toNat = S 1 0
abbrev pz_nds (S : pz_S) (s : Int) : Int := pz_sm (fun f => pz_b (pz_nd S s f)) 0 (S 10 s).toNat
abbrev pz_bs (S : pz_S) (s f : Int) : Int := pz_sm (fun a => pz_sb S s f a) 0 (S 1 0).toNat
/-- the version that is kept at a frame -/
def pz_kv (S : pz_S) (s f a : Int) : Int := if S 16 (40 * s + f) = 0 then -1 else S 17 (8 * (40 * s + f) + a)
theorem pz_kv_r {S : pz_S} (hW : pz_W S) (s f a : Int) : -1 ≤ pz_kv S s f a ∧ pz_kv S s f a ≤ 11 := by
  have w := pw_17 hW (8 * (40 * s + f) + a)
  unfold pz_kv
  split <;> omega
def pz_mxs (S : pz_S) (s a : Int) : Nat → Int → Int → Int → Int
  | 0, _, _, i => i
  | n + 1, f, v0, i => pz_mxs S s a n (f + 1) (if v0 = -1 then pz_kv S s f a else v0) (pz_b (¬ i = 0 ∨ (¬ pz_kv S s f a = -1 ∧ ¬ v0 = -1 ∧ ¬ pz_kv S s f a = v0)))
theorem pz_mxs_r {S : pz_S} {s a : Int} : ∀ (n : Nat) (f v0 i : Int), (i = 0 ∨ i = 1) → (pz_mxs S s a n f v0 i = 0 ∨ pz_mxs S s a n f v0 i = 1) := by
  intro n
  induction n with
  | zero => intro f v0 i h; exact h
  | succ n ih => intro f v0 i h; exact ih _ _ _ (by unfold pz_b; split <;> omega)
/-! the reference: mixes, tells, counts -/
abbrev pz_mx (S : pz_S) (s a : Int) : Int := pz_mxs S s a (S 10 s).toNat 0 (-1) 0
def pz_xa (S : pz_S) (s a : Int) : Int := pz_b ((¬ S 11 (8 * s + a) = 0 ∧ S 12 (8 * s + a) = -1) ∧ ¬ pz_mx S s a = 0)
abbrev pz_xs (S : pz_S) (s : Int) : Int := pz_sm (fun a => pz_xa S s a) 0 (S 1 0).toNat
def pz_tf (S : pz_S) (s f w : Int) : Int := if w = 0 then S 15 (40 * s + f) else if w = 1 then pz_b (0 < S 16 (40 * s + f)) else if w = 2 then pz_b (pz_nd S s f) else if w = 3 then pz_bs S s f else if w = 4 then pz_us S s f else S 16 (40 * s + f)
/-! the reference: counts, cuts -/
def pz_ct (S : pz_S) (w k : Int) : Int := if w = 1 then (if k < S 1 0 then S 2 k else 0) else if k < S 9 0 then (if w = 3 then S 10 k else pz_nds S k) else 0
def pz_cn (S : pz_S) (w : Int) : Int := if w = 0 then S 1 0 else if w = 2 then S 9 0 else if w = 5 then S 20 0 else if w = 6 then pz_us S (-1) (-1) else pz_sm (fun k => pz_ct S w k) 0 (8 : Int).toNat
def pz_g1 (i j : Int) : Nat → Int → pz_S → pz_S
  | 0, _, S => S
  | n + 1, a, S => pz_g1 i j n (a + 1) (pz_su (pz_su S 17 (8 * j + a) (S 17 (8 * i + a))) 18 (8 * j + a) (S 18 (8 * i + a)))
def pz_g2 (i j : Int) : Nat → Int → pz_S → pz_S
  | 0, _, S => S
  | n + 1, k, S => pz_g2 i j n (k + 1) (pz_su S 19 (80 * j + k) (S 19 (80 * i + k)))
def pz_go (S : pz_S) (i j : Int) : pz_S := pz_g2 i j 80 0 (pz_g1 i j 8 0 (pz_su (pz_su S 15 j (S 15 i)) 16 j (S 16 i)))
theorem pw_g1 {i j : Int} : ∀ (n : Nat) (a : Int) (S : pz_S), pz_W S → pz_W (pz_g1 i j n a S) := by
  intro n
  induction n with
  | zero => intro a S h; exact h
  | succ n ih => intro a S h; exact ih _ _ (pws_18 (pws_17 h (pw_17 h _).1 (pw_17 h _).2) (pw_18 h _).1 (pw_18 h _).2)
theorem pw_g2 {i j : Int} : ∀ (n : Nat) (a : Int) (S : pz_S), pz_W S → pz_W (pz_g2 i j n a S) := by
  intro n
  induction n with
  | zero => intro a S h; exact h
  | succ n ih => intro a S h; exact ih _ _ (pws_19 h)
theorem pw_go {S : pz_S} {i j : Int} (h : pz_W S) : pz_W (pz_go S i j) := pw_g2 _ _ _ (pw_g1 _ _ _ (pws_16 (pws_15 h (pw_15 h _).1 (pw_15 h _).2) (pw_16 h _).1 (pw_16 h _).2))
def pz_cy (S : pz_S) (n f k l : Int) : pz_S := if f + k ≤ S 23 n then pz_su S 23 n (S 23 n - k) else if f ≤ S 23 n then pz_su (pz_su S 23 n (if f < l then f else l - 1)) 25 n (S 25 n + 1) else S
theorem pz_cy_t {S : pz_S} {n f k l : Int} {t : Nat} (h1 : t ≠ 23) (h2 : t ≠ 25) : pz_cy S n f k l t = S t := by
  unfold pz_cy
  (repeat' split) <;> first | exact pz_su_t h1 | exact (pz_su_t h2).trans (pz_su_t h1) | rfl
/-! the reference: cuts -/
theorem pw_cy {S : pz_S} {n f k l : Int} (h : pz_W S) (h1 : 0 ≤ f) (h2 : f < 40) (h3 : 1 ≤ k) (h4 : 1 ≤ l) (h5 : l ≤ 40) : pz_W (pz_cy S n f k l) := by
  have w := pw_23 h n
  unfold pz_cy
  split
  · exact pws_23 h (by omega) (by omega)
  · split
    · exact pws_25 (pws_23 h (by split <;> omega) (by split <;> omega))
    · exact h
def pz_c1 (s k : Int) : Nat → Int → pz_S → pz_S
  | 0, _, S => S
  | n + 1, f, S => pz_c1 s k n (f + 1) (pz_go S (40 * s + f + k) (40 * s + f))
def pz_c2 (s f k l : Int) : Nat → Int → pz_S → pz_S
  | 0, _, S => S
  | n + 1, i, S => pz_c2 s f k l n (i + 1) (if S 22 i = s then pz_cy S i f k l else S)
theorem pw_c1 {s k : Int} : ∀ (n : Nat) (f : Int) (S : pz_S), pz_W S → pz_W (pz_c1 s k n f S) := by
  intro n
  induction n with
  | zero => intro f S h; exact h
  | succ n ih => intro f S h; exact ih _ _ (pw_go h)
theorem pw_c2 {s f k l : Int} (h1 : 0 ≤ f) (h2 : f < 40) (h3 : 1 ≤ k) (h4 : 1 ≤ l) (h5 : l ≤ 40) : ∀ (n : Nat) (i : Int) (S : pz_S), pz_W S → pz_W (pz_c2 s f k l n i S) := by
  intro n
  induction n with
  | zero => intro i S h; exact h
  | succ n ih => intro i S h; refine ih _ _ ?_; split; exact pw_cy h h1 h2 h3 h4 h5; exact h
def pz_cut (S : pz_S) (s g k : Int) : pz_S := pz_c2 s g k (S 10 s - k) (S 21 0).toNat 0 (pz_c1 s k (S 10 s - k - g).toNat g (pz_su S 10 s (S 10 s - k)))
/-! the reference: renders -/
theorem pv_t {S S' : pz_S} (h3 : S' 3 = S 3) (h4 : S' 4 = S 4) (h5 : S' 5 = S 5) (h6 : S' 6 = S 6) (h : pz_V S) : pz_V S' := by
  unfold pz_V at h ⊢
  rw [h3, h4, h5, h6]; exact h
def pz_ki (s f a v : Int) : Nat → Int → pz_S → pz_S
  | 0, _, S => S
  | n + 1, b, S => pz_ki s f a v n (b + 1) (pz_su S 19 (10 * (8 * (40 * s + f) + a) + b) (pz_po S (pz_rg a v) (S 15 (40 * s + f)) 10 b))
def pz_kv1 (S : pz_S) (s f a : Int) : Int := if a < S 1 0 then pz_sv S s f a else -1
def pz_kn1 (S : pz_S) (a v : Int) : Int := if v = -1 then 0 else S 3 (8 + 12 * a + v)
def pz_ka (S : pz_S) (s f a : Int) : pz_S := pz_ki s f a (pz_kv1 S s f a) (pz_kn1 S a (pz_kv1 S s f a)).toNat 0 (pz_su (pz_su S 17 (8 * (40 * s + f) + a) (pz_kv1 S s f a)) 18 (8 * (40 * s + f) + a) (pz_kn1 S a (pz_kv1 S s f a)))
def pz_kp (s f : Int) : Nat → Int → pz_S → pz_S
  | 0, _, S => S
  | n + 1, a, S => pz_kp s f n (a + 1) (pz_ka S s f a)
abbrev pz_kps (S : pz_S) (s f : Int) : pz_S := pz_kp s f 8 0 S
theorem pz_ki_t {s f a v : Int} {t : Nat} (h1 : t ≠ 19) : ∀ (n : Nat) (b : Int) (S : pz_S), pz_ki s f a v n b S t = S t := by
  intro n
  induction n with
  | zero => intro b S; rfl
  | succ n ih => intro b S; exact (ih _ _).trans (pz_su_t h1)
theorem pz_ka_t {S : pz_S} {s f a : Int} {t : Nat} (h1 : t ≠ 17) (h2 : t ≠ 18) (h3 : t ≠ 19) : pz_ka S s f a t = S t := by
  unfold pz_ka
  rw [pz_ki_t h3, pz_su_t h2, pz_su_t h1]
theorem pz_kp_t {s f : Int} {t : Nat} (h1 : t ≠ 17) (h2 : t ≠ 18) (h3 : t ≠ 19) : ∀ (n : Nat) (a : Int) (S : pz_S), pz_kp s f n a S t = S t := by
  intro n
  induction n with
  | zero => intro a S; rfl
  | succ n ih => intro a S; exact (ih _ _).trans (pz_ka_t h1 h2 h3)
theorem pw_k2 {s f a v : Int} : ∀ (n : Nat) (b : Int) (S : pz_S), pz_W S → pz_W (pz_ki s f a v n b S) := by
  intro n
  induction n with
  | zero => intro b S h; exact h
  | succ n ih => intro b S h; exact ih _ _ (pws_19 h)
theorem pz_kv1_r {S : pz_S} (h : pz_W S) (s f a : Int) : -1 ≤ pz_kv1 S s f a ∧ pz_kv1 S s f a ≤ 11 := by
  have w := pz_sv_r h s f a
  unfold pz_kv1
  split <;> omega
theorem pz_kn1_r {S : pz_S} (h : pz_W S) (a v : Int) : 0 ≤ pz_kn1 S a v ∧ pz_kn1 S a v ≤ 10 := by
  have w := pw_3 h (8 + 12 * a + v)
  unfold pz_kn1
  split <;> omega
theorem pw_k1 {S : pz_S} {s f a : Int} (h : pz_W S) : pz_W (pz_su (pz_su S 17 (8 * (40 * s + f) + a) (pz_kv1 S s f a)) 18 (8 * (40 * s + f) + a) (pz_kn1 S a (pz_kv1 S s f a))) := pws_18 (pws_17 h (pz_kv1_r h s f a).1 (pz_kv1_r h s f a).2) (pz_kn1_r h _ _).1 (pz_kn1_r h _ _).2
theorem pw_ka {S : pz_S} {s f a : Int} (h : pz_W S) : pz_W (pz_ka S s f a) := pw_k2 _ _ _ (pw_k1 h)
theorem pw_kp {s f : Int} : ∀ (n : Nat) (a : Int) (S : pz_S), pz_W S → pz_W (pz_kp s f n a S) := by
  intro n
  induction n with
  | zero => intro a S h; exact h
  | succ n ih => intro a S h; exact ih _ _ (pw_ka h)
theorem pv_kp {s f : Int} {n : Nat} {a : Int} {S : pz_S} (h : pz_V S) : pz_V (pz_kp s f n a S) := pv_t (pz_kp_t (by decide) (by decide) (by decide) _ _ _) (pz_kp_t (by decide) (by decide) (by decide) _ _ _) (pz_kp_t (by decide) (by decide) (by decide) _ _ _) (pz_kp_t (by decide) (by decide) (by decide) _ _ _) h
/-! the reference: renders, versions -/
theorem pz_kps_t {S : pz_S} {s f : Int} {t : Nat} (h1 : t ≠ 17) (h2 : t ≠ 18) (h3 : t ≠ 19) : pz_kps S s f t = S t := pz_kp_t h1 h2 h3 _ _ _
def pz_rd (S : pz_S) (s f : Int) : pz_S := pz_su (pz_su (pz_kps S s f) 16 (40 * s + f) (S 16 (40 * s + f) + 1)) 20 0 (S 20 0 + 1)
theorem pz_rd_t {S : pz_S} {s f : Int} {t : Nat} (h1 : t ≠ 17) (h2 : t ≠ 18) (h3 : t ≠ 19) (h4 : t ≠ 16) (h5 : t ≠ 20) : pz_rd S s f t = S t := by
  unfold pz_rd
  rw [pz_su_t h5, pz_su_t h4, pz_kps_t h1 h2 h3]
theorem pw_rd {S : pz_S} {s f : Int} (h : pz_W S) (h1 : S 16 (40 * s + f) ≤ 999999999) : pz_W (pz_rd S s f) := pws_20 (pws_16 (pw_kp _ _ _ h) (by have := pw_16 h (40 * s + f); omega) (by omega))
theorem pv_rd {S : pz_S} {s f : Int} (h : pz_V S) : pz_V (pz_rd S s f) := pv_t (pz_rd_t (by decide) (by decide) (by decide) (by decide) (by decide)) (pz_rd_t (by decide) (by decide) (by decide) (by decide) (by decide)) (pz_rd_t (by decide) (by decide) (by decide) (by decide) (by decide)) (pz_rd_t (by decide) (by decide) (by decide) (by decide) (by decide)) h
/-- one frame of a scene that is rendered -/
def pz_r1 (S : pz_S) (s f : Int) : pz_S := if pz_nd S s f then pz_rd S s f else pz_kps S s f
theorem pz_r1_t {S : pz_S} {s f : Int} {t : Nat} (h1 : t ≠ 17) (h2 : t ≠ 18) (h3 : t ≠ 19) (h4 : t ≠ 16) (h5 : t ≠ 20) : pz_r1 S s f t = S t := by
  unfold pz_r1
  split
  · exact pz_rd_t h1 h2 h3 h4 h5
  · exact pz_kp_t h1 h2 h3 _ _ _
theorem pw_r1 {S : pz_S} {s f : Int} (h : pz_W S) (h1 : S 16 (40 * s + f) ≤ 999999999) : pz_W (pz_r1 S s f) := by
  unfold pz_r1
  split
  · exact pw_rd h h1
  · exact pw_kp _ _ _ h
theorem pv_r1 {S : pz_S} {s f : Int} (h : pz_V S) : pz_V (pz_r1 S s f) := by
  unfold pz_r1
  split
  · exact pv_rd h
  · exact pv_kp h
theorem pz_r1_16 {S : pz_S} {s f i : Int} (h : i ≠ f) : pz_r1 S s f 16 (40 * s + i) = S 16 (40 * s + i) := by
  unfold pz_r1
  split
  · unfold pz_rd
    rw [pz_su_t (by decide), pz_su_i, if_neg (by omega), pz_kps_t (by decide) (by decide) (by decide)]
  · rw [pz_kps_t (by decide) (by decide) (by decide)]
def pz_rS (s : Int) : Nat → Int → pz_S → pz_S
  | 0, _, S => S
  | n + 1, f, S => pz_rS s n (f + 1) (pz_r1 S s f)
def pz_rN (s : Int) : Nat → Int → pz_S → Int
  | 0, _, _ => 0
  | n + 1, f, S => pz_b (pz_nd S s f) + pz_rN s n (f + 1) (pz_r1 S s f)
/-! the reference: versions -/
def pz_pk (i j : Int) : Nat → Int → pz_S → pz_S
  | 0, _, S => S
  | n + 1, k, S => pz_pk i j n (k + 1) (pz_cp S (12 * i + k) (12 * j + k))
theorem pz_pk_t {i j : Int} {t : Nat} (h6 : t ≠ 6) (h7 : t ≠ 7) (h8 : t ≠ 8) : ∀ (n : Nat) (k : Int) (S : pz_S), pz_pk i j n k S t = S t := by
  intro n
  induction n with
  | zero => intro k S; rfl
  | succ n ih => intro k S; exact (ih _ _).trans (pz_cp_t h6 h7 h8)
theorem pw_pk {i j : Int} : ∀ (n : Nat) (k : Int) (S : pz_S), pz_W S → pz_W (pz_pk i j n k S) := by
  intro n
  induction n with
  | zero => intro k S h; exact h
  | succ n ih => intro k S h; exact ih _ _ (pw_cp h)
/-- one bone of a draft a goes into a rig r -/
def pz_pb (S : pz_S) (a r b : Int) : pz_S := pz_pk (10 * a + b) (10 * r + b) (S 5 (10 * a + b)).toNat 0 (pz_su (pz_su S 4 (10 * r + b) (S 4 (10 * a + b))) 5 (10 * r + b) (S 5 (10 * a + b)))
theorem pz_pb_t {S : pz_S} {a r b : Int} {t : Nat} (h4 : t ≠ 4) (h5 : t ≠ 5) (h6 : t ≠ 6) (h7 : t ≠ 7) (h8 : t ≠ 8) : pz_pb S a r b t = S t := by
  unfold pz_pb
  rw [pz_pk_t h6 h7 h8, pz_su_t h5, pz_su_t h4]
theorem pw_pb {S : pz_S} {a r b : Int} (h : pz_W S) : pz_W (pz_pb S a r b) := pw_pk _ _ _ (pws_5 (pws_4 h (pw_4 h _).1 (pw_4 h _).2) (pw_5 h _).1 (pw_5 h _).2)
def pz_pB (a r : Int) : Nat → Int → pz_S → pz_S
  | 0, _, S => S
  | n + 1, b, S => pz_pB a r n (b + 1) (pz_pb S a r b)
theorem pz_pB_t {a r : Int} {t : Nat} (h4 : t ≠ 4) (h5 : t ≠ 5) (h6 : t ≠ 6) (h7 : t ≠ 7) (h8 : t ≠ 8) : ∀ (n : Nat) (b : Int) (S : pz_S), pz_pB a r n b S t = S t := by
  intro n
  induction n with
  | zero => intro b S; rfl
  | succ n ih => intro b S; exact (ih _ _).trans (pz_pb_t h4 h5 h6 h7 h8)
theorem pw_pB {a r : Int} : ∀ (n : Nat) (b : Int) (S : pz_S), pz_W S → pz_W (pz_pB a r n b S) := by
  intro n
  induction n with
  | zero => intro b S h; exact h
  | succ n ih => intro b S h; exact ih _ _ (pw_pb h)
def pz_pub (S : pz_S) (a : Int) : pz_S := pz_su (pz_pB a (8 + 12 * a + S 2 a) (S 3 a).toNat 0 (pz_su S 3 (8 + 12 * a + S 2 a) (S 3 a))) 2 a (S 2 a + 1)
/-! the reference: its constructor -/