/-! a version is made: what the reference writes -/
section
variable {S S' : pz_S} {a r : Int}
theorem rz_pk_6 {i j : Int} (hij : i ≠ j) : ∀ (n : Nat) (k : Int) (S : pz_S) (x : Int), 0 ≤ k → k + n ≤ 12 → pz_pk i j n k S 6 x = if 12 * j + k ≤ x ∧ x < 12 * j + k + n then S 6 (x - 12 * j + 12 * i) else S 6 x := by
  intro n
  induction n with
  | zero => intro k S x _ _; rw [if_neg (by omega)]; rfl
  | succ n ih =>
    intro k S x h1 h2
    refine (ih (k + 1) _ x (by omega) (by omega)).trans ?_
    rw [pz_cp_6, pz_cp_6]
    by_cases c : x = 12 * j + k
    · rw [if_neg (by omega), if_pos c, if_pos (by omega)]
      exact congrArg (S 6) (by omega)
    · by_cases c2 : 12 * j + (k + 1) ≤ x ∧ x < 12 * j + (k + 1) + n
      · rw [if_pos c2, if_neg (by omega), if_pos (by omega)]
      · rw [if_neg c2, if_neg c, if_neg (by omega)]
theorem rz_pb_6 (hW : pz_W S) {b x : Int} (hr : r ≠ a) : pz_pb S a r b 6 x = if 12 * (10 * r + b) ≤ x ∧ x < 12 * (10 * r + b) + S 5 (10 * a + b) then S 6 (x - 12 * (10 * r + b) + 12 * (10 * a + b)) else S 6 x := by
  have w := pw_5 hW (10 * a + b)
  unfold pz_pb
  rw [rz_pk_6 (show 10 * a + b ≠ 10 * r + b by omega) _ _ _ _ (by omega) (by omega), pz_su_t (by decide), pz_su_t (by decide)]
  exact rz_ic (by omega)
theorem rz_pk_7 {i j : Int} (hij : i ≠ j) : ∀ (n : Nat) (k : Int) (S : pz_S) (x : Int), 0 ≤ k → k + n ≤ 12 → pz_pk i j n k S 7 x = if 12 * j + k ≤ x ∧ x < 12 * j + k + n then S 7 (x - 12 * j + 12 * i) else S 7 x := by
  intro n
  induction n with
  | zero => intro k S x _ _; rw [if_neg (by omega)]; rfl
  | succ n ih =>
    intro k S x h1 h2
    refine (ih (k + 1) _ x (by omega) (by omega)).trans ?_
    rw [pz_cp_7, pz_cp_7]
    by_cases c : x = 12 * j + k
    · rw [if_neg (by omega), if_pos c, if_pos (by omega)]
      exact congrArg (S 7) (by omega)
    · by_cases c2 : 12 * j + (k + 1) ≤ x ∧ x < 12 * j + (k + 1) + n
      · rw [if_pos c2, if_neg (by omega), if_pos (by omega)]
      · rw [if_neg c2, if_neg c, if_neg (by omega)]
theorem rz_pb_7 (hW : pz_W S) {b x : Int} (hr : r ≠ a) : pz_pb S a r b 7 x = if 12 * (10 * r + b) ≤ x ∧ x < 12 * (10 * r + b) + S 5 (10 * a + b) then S 7 (x - 12 * (10 * r + b) + 12 * (10 * a + b)) else S 7 x := by
  have w := pw_5 hW (10 * a + b)
  unfold pz_pb
  rw [rz_pk_7 (show 10 * a + b ≠ 10 * r + b by omega) _ _ _ _ (by omega) (by omega), pz_su_t (by decide), pz_su_t (by decide)]
  exact rz_ic (by omega)
theorem rz_pk_8 {i j : Int} (hij : i ≠ j) : ∀ (n : Nat) (k : Int) (S : pz_S) (x : Int), 0 ≤ k → k + n ≤ 12 → pz_pk i j n k S 8 x = if 12 * j + k ≤ x ∧ x < 12 * j + k + n then S 8 (x - 12 * j + 12 * i) else S 8 x := by
  intro n
  induction n with
  | zero => intro k S x _ _; rw [if_neg (by omega)]; rfl
  | succ n ih =>
    intro k S x h1 h2
    refine (ih (k + 1) _ x (by omega) (by omega)).trans ?_
    rw [pz_cp_8, pz_cp_8]
    by_cases c : x = 12 * j + k
    · rw [if_neg (by omega), if_pos c, if_pos (by omega)]
      exact congrArg (S 8) (by omega)
    · by_cases c2 : 12 * j + (k + 1) ≤ x ∧ x < 12 * j + (k + 1) + n
      · rw [if_pos c2, if_neg (by omega), if_pos (by omega)]
      · rw [if_neg c2, if_neg c, if_neg (by omega)]
theorem rz_pb_8 (hW : pz_W S) {b x : Int} (hr : r ≠ a) : pz_pb S a r b 8 x = if 12 * (10 * r + b) ≤ x ∧ x < 12 * (10 * r + b) + S 5 (10 * a + b) then S 8 (x - 12 * (10 * r + b) + 12 * (10 * a + b)) else S 8 x := by
  have w := pw_5 hW (10 * a + b)
  unfold pz_pb
  rw [rz_pk_8 (show 10 * a + b ≠ 10 * r + b by omega) _ _ _ _ (by omega) (by omega), pz_su_t (by decide), pz_su_t (by decide)]
  exact rz_ic (by omega)
theorem rz_pb_4 {b x : Int} : pz_pb S a r b 4 x = if x = 10 * r + b then S 4 (10 * a + b) else S 4 x := by
  unfold pz_pb
  rw [pz_pk_t (by decide) (by decide) (by decide), pz_su_t (by decide), pz_su_i]
theorem rz_pb_5 {b x : Int} : pz_pb S a r b 5 x = if x = 10 * r + b then S 5 (10 * a + b) else S 5 x := by
  unfold pz_pb
  rw [pz_pk_t (by decide) (by decide) (by decide), pz_su_i, pz_su_t (by decide)]
theorem rz_pB_4 (hr : 10 * a + 10 ≤ 10 * r) : ∀ (n : Nat) (b : Int) (S : pz_S) (x : Int), 0 ≤ b → b + n ≤ 10 → pz_pB a r n b S 4 x = if 10 * r + b ≤ x ∧ x < 10 * r + b + n then S 4 (x - 10 * r + 10 * a) else S 4 x := by
  intro n
  induction n with
  | zero => intro b S x _ _; rw [if_neg (by omega)]; rfl
  | succ n ih =>
    intro b S x h1 h2
    refine (ih (b + 1) _ x (by omega) (by omega)).trans ?_
    rw [rz_pb_4, rz_pb_4]
    by_cases c : x = 10 * r + b
    · rw [if_neg (by omega), if_pos c, if_pos (by omega)]
      exact congrArg (S 4) (by omega)
    · by_cases c2 : 10 * r + (b + 1) ≤ x ∧ x < 10 * r + (b + 1) + n
      · rw [if_pos c2, if_neg (by omega), if_pos (by omega)]
      · rw [if_neg c2, if_neg c, if_neg (by omega)]
theorem rz_pB_5 (hr : 10 * a + 10 ≤ 10 * r) : ∀ (n : Nat) (b : Int) (S : pz_S) (x : Int), 0 ≤ b → b + n ≤ 10 → pz_pB a r n b S 5 x = if 10 * r + b ≤ x ∧ x < 10 * r + b + n then S 5 (x - 10 * r + 10 * a) else S 5 x := by
  intro n
  induction n with
  | zero => intro b S x _ _; rw [if_neg (by omega)]; rfl
  | succ n ih =>
    intro b S x h1 h2
    refine (ih (b + 1) _ x (by omega) (by omega)).trans ?_
    rw [rz_pb_5, rz_pb_5]
    by_cases c : x = 10 * r + b
    · rw [if_neg (by omega), if_pos c, if_pos (by omega)]
      exact congrArg (S 5) (by omega)
    · by_cases c2 : 10 * r + (b + 1) ≤ x ∧ x < 10 * r + (b + 1) + n
      · rw [if_pos c2, if_neg (by omega), if_pos (by omega)]
      · rw [if_neg c2, if_neg c, if_neg (by omega)]
theorem rz_pB_6o (hr : 10 * a + 10 ≤ 10 * r) : ∀ (n : Nat) (b : Int) (S : pz_S) (x : Int), pz_W S → (x < 12 * (10 * r + b) ∨ 12 * (10 * r + b + n) ≤ x) → pz_pB a r n b S 6 x = S 6 x := by
  intro n
  induction n with
  | zero => intro b S x _ _; rfl
  | succ n ih =>
    intro b S x hW h1
    have w := pw_5 hW (10 * a + b)
    refine (ih (b + 1) _ x (pw_pb hW) (by omega)).trans ?_
    rw [rz_pb_6 hW (by omega), if_neg (by omega)]
theorem rz_pB_6 (hr : 10 * a + 10 ≤ 10 * r) : ∀ (n : Nat) (b : Int) (S : pz_S) (b' k : Int), pz_W S → 0 ≤ b → b ≤ b' → b' < b + n → b + n ≤ 10 → 0 ≤ k → k < 12 → pz_pB a r n b S 6 (12 * (10 * r + b') + k) = if k < S 5 (10 * a + b') then S 6 (12 * (10 * a + b') + k) else S 6 (12 * (10 * r + b') + k) := by
  intro n
  induction n with
  | zero => intro b S b' k _ h0 h1 h2; omega
  | succ n ih =>
    intro b S b' k hW h0 h1 h2 h3 h4 h5
    have w := pw_5 hW (10 * a + b)
    by_cases e : b' = b
    · subst e
      refine (rz_pB_6o hr n (b' + 1) _ _ (pw_pb hW) (by omega)).trans ?_
      rw [rz_pb_6 hW (by omega)]
      by_cases c : k < S 5 (10 * a + b')
      · rw [if_pos (by omega), if_pos c]; exact congrArg (S 6) (by omega)
      · rw [if_neg (by omega), if_neg c]
    · refine (ih (b + 1) _ b' k (pw_pb hW) (by omega) (by omega) (by omega) (by omega) h4 h5).trans ?_
      have e5 : pz_pb S a r b 5 (10 * a + b') = S 5 (10 * a + b') := by rw [rz_pb_5, if_neg (by omega)]
      have e6 : pz_pb S a r b 6 (12 * (10 * a + b') + k) = S 6 (12 * (10 * a + b') + k) := by rw [rz_pb_6 hW (by omega), if_neg (by omega)]
      have e7 : pz_pb S a r b 6 (12 * (10 * r + b') + k) = S 6 (12 * (10 * r + b') + k) := by rw [rz_pb_6 hW (by omega), if_neg (by omega)]
      rw [e5, e6, e7]
theorem rz_pB_7o (hr : 10 * a + 10 ≤ 10 * r) : ∀ (n : Nat) (b : Int) (S : pz_S) (x : Int), pz_W S → (x < 12 * (10 * r + b) ∨ 12 * (10 * r + b + n) ≤ x) → pz_pB a r n b S 7 x = S 7 x := by
  intro n
  induction n with
  | zero => intro b S x _ _; rfl
  | succ n ih =>
    intro b S x hW h1
    have w := pw_5 hW (10 * a + b)
    refine (ih (b + 1) _ x (pw_pb hW) (by omega)).trans ?_
    rw [rz_pb_7 hW (by omega), if_neg (by omega)]
theorem rz_pB_7 (hr : 10 * a + 10 ≤ 10 * r) : ∀ (n : Nat) (b : Int) (S : pz_S) (b' k : Int), pz_W S → 0 ≤ b → b ≤ b' → b' < b + n → b + n ≤ 10 → 0 ≤ k → k < 12 → pz_pB a r n b S 7 (12 * (10 * r + b') + k) = if k < S 5 (10 * a + b') then S 7 (12 * (10 * a + b') + k) else S 7 (12 * (10 * r + b') + k) := by
  intro n
  induction n with
  | zero => intro b S b' k _ h0 h1 h2; omega
  | succ n ih =>
    intro b S b' k hW h0 h1 h2 h3 h4 h5
    have w := pw_5 hW (10 * a + b)
    by_cases e : b' = b
    · subst e
      refine (rz_pB_7o hr n (b' + 1) _ _ (pw_pb hW) (by omega)).trans ?_
      rw [rz_pb_7 hW (by omega)]
      by_cases c : k < S 5 (10 * a + b')
      · rw [if_pos (by omega), if_pos c]; exact congrArg (S 7) (by omega)
      · rw [if_neg (by omega), if_neg c]
    · refine (ih (b + 1) _ b' k (pw_pb hW) (by omega) (by omega) (by omega) (by omega) h4 h5).trans ?_
      have e5 : pz_pb S a r b 5 (10 * a + b') = S 5 (10 * a + b') := by rw [rz_pb_5, if_neg (by omega)]
      have e6 : pz_pb S a r b 7 (12 * (10 * a + b') + k) = S 7 (12 * (10 * a + b') + k) := by rw [rz_pb_7 hW (by omega), if_neg (by omega)]
      have e7 : pz_pb S a r b 7 (12 * (10 * r + b') + k) = S 7 (12 * (10 * r + b') + k) := by rw [rz_pb_7 hW (by omega), if_neg (by omega)]
      rw [e5, e6, e7]
theorem rz_pB_8o (hr : 10 * a + 10 ≤ 10 * r) : ∀ (n : Nat) (b : Int) (S : pz_S) (x : Int), pz_W S → (x < 12 * (10 * r + b) ∨ 12 * (10 * r + b + n) ≤ x) → pz_pB a r n b S 8 x = S 8 x := by
  intro n
  induction n with
  | zero => intro b S x _ _; rfl
  | succ n ih =>
    intro b S x hW h1
    have w := pw_5 hW (10 * a + b)
    refine (ih (b + 1) _ x (pw_pb hW) (by omega)).trans ?_
    rw [rz_pb_8 hW (by omega), if_neg (by omega)]
theorem rz_pB_8 (hr : 10 * a + 10 ≤ 10 * r) : ∀ (n : Nat) (b : Int) (S : pz_S) (b' k : Int), pz_W S → 0 ≤ b → b ≤ b' → b' < b + n → b + n ≤ 10 → 0 ≤ k → k < 12 → pz_pB a r n b S 8 (12 * (10 * r + b') + k) = if k < S 5 (10 * a + b') then S 8 (12 * (10 * a + b') + k) else S 8 (12 * (10 * r + b') + k) := by
  intro n
  induction n with
  | zero => intro b S b' k _ h0 h1 h2; omega
  | succ n ih =>
    intro b S b' k hW h0 h1 h2 h3 h4 h5
    have w := pw_5 hW (10 * a + b)
    by_cases e : b' = b
    · subst e
      refine (rz_pB_8o hr n (b' + 1) _ _ (pw_pb hW) (by omega)).trans ?_
      rw [rz_pb_8 hW (by omega)]
      by_cases c : k < S 5 (10 * a + b')
      · rw [if_pos (by omega), if_pos c]; exact congrArg (S 8) (by omega)
      · rw [if_neg (by omega), if_neg c]
    · refine (ih (b + 1) _ b' k (pw_pb hW) (by omega) (by omega) (by omega) (by omega) h4 h5).trans ?_
      have e5 : pz_pb S a r b 5 (10 * a + b') = S 5 (10 * a + b') := by rw [rz_pb_5, if_neg (by omega)]
      have e6 : pz_pb S a r b 8 (12 * (10 * a + b') + k) = S 8 (12 * (10 * a + b') + k) := by rw [rz_pb_8 hW (by omega), if_neg (by omega)]
      have e7 : pz_pb S a r b 8 (12 * (10 * r + b') + k) = S 8 (12 * (10 * r + b') + k) := by rw [rz_pb_8 hW (by omega), if_neg (by omega)]
      rw [e5, e6, e7]
theorem rz_pub_t {t : Nat} (h2 : t ≠ 2) (h3 : t ≠ 3) (h4 : t ≠ 4) (h5 : t ≠ 5) (h6 : t ≠ 6) (h7 : t ≠ 7) (h8 : t ≠ 8) : pz_pub S a t = S t := by
  unfold pz_pub
  rw [pz_su_t h2, pz_pB_t h4 h5 h6 h7 h8, pz_su_t h3]
theorem rz_pub_2 {x : Int} : pz_pub S a 2 x = if x = a then S 2 a + 1 else S 2 x := by
  unfold pz_pub
  rw [pz_su_i, pz_pB_t (by decide) (by decide) (by decide) (by decide) (by decide), pz_su_t (by decide)]
theorem rz_pub_3 {x : Int} : pz_pub S a 3 x = if x = (8 + 12 * a + S 2 a) then S 3 a else S 3 x := by
  unfold pz_pub
  rw [pz_su_t (by decide), pz_pB_t (by decide) (by decide) (by decide) (by decide) (by decide), pz_su_i]
theorem rz_pub_4 (hW : pz_W S) (ha0 : 0 ≤ a) (ha1 : a < 8) {x : Int} : pz_pub S a 4 x = if 10 * (8 + 12 * a + S 2 a) ≤ x ∧ x < 10 * (8 + 12 * a + S 2 a) + S 3 a then S 4 (x - 10 * (8 + 12 * a + S 2 a) + 10 * a) else S 4 x := by
  have w2 := pw_2 hW a
  have w3 := pw_3 hW a
  unfold pz_pub
  rw [pz_su_t (by decide), rz_pB_4 (by omega) _ _ _ _ (by omega) (by omega), pz_su_t (by decide)]
  exact rz_ic (by omega)
theorem rz_pub_5 (hW : pz_W S) (ha0 : 0 ≤ a) (ha1 : a < 8) {x : Int} : pz_pub S a 5 x = if 10 * (8 + 12 * a + S 2 a) ≤ x ∧ x < 10 * (8 + 12 * a + S 2 a) + S 3 a then S 5 (x - 10 * (8 + 12 * a + S 2 a) + 10 * a) else S 5 x := by
  have w2 := pw_2 hW a
  have w3 := pw_3 hW a
  unfold pz_pub
  rw [pz_su_t (by decide), rz_pB_5 (by omega) _ _ _ _ (by omega) (by omega), pz_su_t (by decide)]
  exact rz_ic (by omega)
theorem rz_pub_6o (hW : pz_W S) (ha0 : 0 ≤ a) (ha1 : a < 8) {x : Int} (hx : x < 120 * (8 + 12 * a + S 2 a) ∨ 12 * (10 * (8 + 12 * a + S 2 a) + S 3 a) ≤ x) : pz_pub S a 6 x = S 6 x := by
  have w2 := pw_2 hW a
  have w3 := pw_3 hW a
  unfold pz_pub
  rw [pz_su_t (by decide), rz_pB_6o (by omega) _ _ _ _ (pws_3 hW w3.1 w3.2) (by omega), pz_su_t (by decide)]
theorem rz_pub_6 (hW : pz_W S) (hJ : rz_J S) (ha0 : 0 ≤ a) (ha1 : a < 8) (h12 : S 2 a < 12) {b k : Int} (hb0 : 0 ≤ b) (hb1 : b < S 3 a) (hk0 : 0 ≤ k) (hk1 : k < 12) : pz_pub S a 6 (12 * (10 * (8 + 12 * a + S 2 a) + b) + k) = if k < S 5 (10 * a + b) then S 6 (12 * (10 * a + b) + k) else 0 := by
  have w2 := pw_2 hW a
  have w3 := pw_3 hW a
  have z3 := hJ.1.2 a (S 2 a) ha0 ha1 (Int.le_refl _) h12
  have z6 := (hJ.2.1 ((8 + 12 * a + S 2 a)) b (by omega) (by omega) (by rw [z3]; exact hb0) (by omega)).2.2 k hk0 hk1
  unfold pz_pub
  rw [pz_su_t (by decide), rz_pB_6 (by omega) _ _ _ _ _ (pws_3 hW w3.1 w3.2) (by omega) (by omega) (by omega) (by omega) hk0 hk1, pz_su_t (by decide), pz_su_t (by decide)]
  by_cases c : k < S 5 (10 * a + b)
  · rw [if_pos c, if_pos c]
  · rw [if_neg c, if_neg c]; exact z6.1
theorem rz_pub_7o (hW : pz_W S) (ha0 : 0 ≤ a) (ha1 : a < 8) {x : Int} (hx : x < 120 * (8 + 12 * a + S 2 a) ∨ 12 * (10 * (8 + 12 * a + S 2 a) + S 3 a) ≤ x) : pz_pub S a 7 x = S 7 x := by
  have w2 := pw_2 hW a
  have w3 := pw_3 hW a
  unfold pz_pub
  rw [pz_su_t (by decide), rz_pB_7o (by omega) _ _ _ _ (pws_3 hW w3.1 w3.2) (by omega), pz_su_t (by decide)]
theorem rz_pub_7 (hW : pz_W S) (hJ : rz_J S) (ha0 : 0 ≤ a) (ha1 : a < 8) (h12 : S 2 a < 12) {b k : Int} (hb0 : 0 ≤ b) (hb1 : b < S 3 a) (hk0 : 0 ≤ k) (hk1 : k < 12) : pz_pub S a 7 (12 * (10 * (8 + 12 * a + S 2 a) + b) + k) = if k < S 5 (10 * a + b) then S 7 (12 * (10 * a + b) + k) else 0 := by
  have w2 := pw_2 hW a
  have w3 := pw_3 hW a
  have z3 := hJ.1.2 a (S 2 a) ha0 ha1 (Int.le_refl _) h12
  have z6 := (hJ.2.1 ((8 + 12 * a + S 2 a)) b (by omega) (by omega) (by rw [z3]; exact hb0) (by omega)).2.2 k hk0 hk1
  unfold pz_pub
  rw [pz_su_t (by decide), rz_pB_7 (by omega) _ _ _ _ _ (pws_3 hW w3.1 w3.2) (by omega) (by omega) (by omega) (by omega) hk0 hk1, pz_su_t (by decide), pz_su_t (by decide)]
  by_cases c : k < S 5 (10 * a + b)
  · rw [if_pos c, if_pos c]
  · rw [if_neg c, if_neg c]; exact z6.2.1
theorem rz_pub_8o (hW : pz_W S) (ha0 : 0 ≤ a) (ha1 : a < 8) {x : Int} (hx : x < 120 * (8 + 12 * a + S 2 a) ∨ 12 * (10 * (8 + 12 * a + S 2 a) + S 3 a) ≤ x) : pz_pub S a 8 x = S 8 x := by
  have w2 := pw_2 hW a
  have w3 := pw_3 hW a
  unfold pz_pub
  rw [pz_su_t (by decide), rz_pB_8o (by omega) _ _ _ _ (pws_3 hW w3.1 w3.2) (by omega), pz_su_t (by decide)]
theorem rz_pub_8 (hW : pz_W S) (hJ : rz_J S) (ha0 : 0 ≤ a) (ha1 : a < 8) (h12 : S 2 a < 12) {b k : Int} (hb0 : 0 ≤ b) (hb1 : b < S 3 a) (hk0 : 0 ≤ k) (hk1 : k < 12) : pz_pub S a 8 (12 * (10 * (8 + 12 * a + S 2 a) + b) + k) = if k < S 5 (10 * a + b) then S 8 (12 * (10 * a + b) + k) else 0 := by
  have w2 := pw_2 hW a
  have w3 := pw_3 hW a
  have z3 := hJ.1.2 a (S 2 a) ha0 ha1 (Int.le_refl _) h12
  have z6 := (hJ.2.1 ((8 + 12 * a + S 2 a)) b (by omega) (by omega) (by rw [z3]; exact hb0) (by omega)).2.2 k hk0 hk1
  unfold pz_pub
  rw [pz_su_t (by decide), rz_pB_8 (by omega) _ _ _ _ _ (pws_3 hW w3.1 w3.2) (by omega) (by omega) (by omega) (by omega) hk0 hk1, pz_su_t (by decide), pz_su_t (by decide)]
  by_cases c : k < S 5 (10 * a + b)
  · rw [if_pos c, if_pos c]
  · rw [if_neg c, if_neg c]; exact z6.2.2
theorem rz_W_pub (hW : pz_W S) (h12 : S 2 a < 12) : pz_W (pz_pub S a) := by
  have w2 := pw_2 hW a
  exact pws_2 (pw_pB _ _ _ (pws_3 hW (pw_3 hW _).1 (pw_3 hW _).2)) (by omega) (by omega)
theorem rz_V_pub (hW : pz_W S) (hV : pz_V S) (hJ : rz_J S) (ha0 : 0 ≤ a) (ha1 : a < 8) (h12 : S 2 a < 12) : pz_V (pz_pub S a) := by
  have w2 := pw_2 hW a
  have w3 := pw_3 hW a
  refine ⟨fun B k B0 B1 k0 k1 => ?_, fun r b r0 r1 b0 b1 => ?_⟩
  · rw [rz_pub_5 hW ha0 ha1] at k1
    by_cases c : 10 * (8 + 12 * a + S 2 a) ≤ B ∧ B < 10 * (8 + 12 * a + S 2 a) + S 3 a
    · rw [if_pos c] at k1
      have w5 := pw_5 hW (B - 10 * (8 + 12 * a + S 2 a) + 10 * a)
      have e1 := rz_pub_6 hW hJ ha0 ha1 h12 (b := B - 10 * (8 + 12 * a + S 2 a)) (k := k) (by omega) (by omega) k0 (by omega)
      have e2 := rz_pub_6 hW hJ ha0 ha1 h12 (b := B - 10 * (8 + 12 * a + S 2 a)) (k := k + 1) (by omega) (by omega) (by omega) (by omega)
      have q := hV.1 (B - 10 * (8 + 12 * a + S 2 a) + 10 * a) k (by omega) (by omega) k0 k1
      rw [show 10 * (8 + 12 * a + S 2 a) + (B - 10 * (8 + 12 * a + S 2 a)) = B by omega, show 10 * a + (B - 10 * (8 + 12 * a + S 2 a)) = B - 10 * (8 + 12 * a + S 2 a) + 10 * a by omega] at e1 e2
      rw [← Int.add_assoc] at e2
      rw [e1, e2, if_pos (by omega), if_pos k1, ← Int.add_assoc]
      exact q
    · rw [if_neg c] at k1
      have w5 := pw_5 hW B
      rw [rz_pub_6o hW ha0 ha1 (by omega), rz_pub_6o hW ha0 ha1 (by omega)]
      exact hV.1 B k B0 B1 k0 k1
  · rw [rz_pub_3] at b1
    rw [rz_pub_4 hW ha0 ha1]
    have w3r := pw_3 hW r
    by_cases c : r = (8 + 12 * a + S 2 a)
    · rw [if_pos c] at b1
      rw [if_pos (by omega), show 10 * r + b - 10 * (8 + 12 * a + S 2 a) + 10 * a = 10 * a + b by omega]
      exact hV.2 a b ha0 (by omega) b0 b1
    · rw [if_neg c] at b1
      rw [if_neg (by omega)]
      exact hV.2 r b r0 r1 b0 b1
theorem rz_po_pub (hW : pz_W S) (ha0 : 0 ≤ a) (ha1 : a < 8) {r f : Int} (hr : r ≠ (8 + 12 * a + S 2 a)) (b : Int) (hb0 : -1 ≤ b) (hb1 : b < 10) : pz_po (pz_pub S a) r f 10 b = pz_po S r f 10 b := by
  have w2 := pw_2 hW a
  have w3 := pw_3 hW a
  exact rz_po hW (fun b b0 b1 => ⟨by rw [rz_pub_4 hW ha0 ha1, if_neg (by omega)], by rw [rz_pub_5 hW ha0 ha1, if_neg (by omega)], fun k k0 k1 => ⟨rz_pub_6o hW ha0 ha1 (by omega), rz_pub_7o hW ha0 ha1 (by omega), rz_pub_8o hW ha0 ha1 (by omega)⟩⟩) 10 b hb0 hb1
theorem rz_I_pub (hW : pz_W S) (hI : pz_I S) (ha0 : 0 ≤ a) (ha1 : a < 8) (h3 : ¬ S 3 a = 0) (h12 : S 2 a < 12) : pz_I (pz_pub S a) := by
  have w2 := pw_2 hW a
  have w3 := pw_3 hW a
  have tt : ∀ t, t ∉ [2, 3, 4, 5, 6, 7, 8] → pz_pub S a t = S t := fun t ht => rz_pub_t (fun e => ht (by rw [e]; decide)) (fun e => ht (by rw [e]; decide)) (fun e => ht (by rw [e]; decide)) (fun e => ht (by rw [e]; decide)) (fun e => ht (by rw [e]; decide)) (fun e => ht (by rw [e]; decide)) (fun e => ht (by rw [e]; decide))
  have le2 : ∀ x, S 2 x ≤ pz_pub S a 2 x := fun x => by
    rw [rz_pub_2]
    by_cases e : x = a
    · rw [if_pos e, e]; omega
    · rw [if_neg e]; omega
  refine rz_I_of ?_ ?_ ?_
  · rw [tt 11 (by decide), tt 1 (by decide), tt 12 (by decide)]
    intro s x s0 s1 x0 x1 hx
    have := hI.1 s x s0 s1 x0 x1 hx
    exact ⟨this.1, by have := le2 x; omega⟩
  · intro x v x0 x1 v0 v1
    rw [rz_pub_2] at v1
    rw [rz_pub_3]
    by_cases e : x = a
    · subst e
      rw [if_pos rfl] at v1
      by_cases ev : v = S 2 x
      · rw [if_pos (by omega)]; omega
      · rw [if_neg (by omega)]; exact hI.2.1 x v x0 x1 v0 (by omega)
    · rw [if_neg e] at v1
      have w2x := pw_2 hW x
      rw [if_neg (by omega)]
      exact hI.2.1 x v x0 x1 v0 v1
  · rw [tt 9 (by decide), tt 10 (by decide), tt 16 (by decide)]
    intro s f s0 s1 f0 f1 ht x x0 x1
    obtain ⟨k1, k2, k3⟩ := rz_I_3 hI s f s0 s1 f0 f1 ht x x0 x1
    have w17 := pw_17 hW (8 * (40 * s + f) + x)
    have w2x := pw_2 hW x
    have l2 := le2 x
    rw [tt 15 (by decide), tt 17 (by decide), tt 18 (by decide), tt 19 (by decide)]
    have hne : 8 + 12 * x + S 17 (8 * (40 * s + f) + x) ≠ (8 + 12 * a + S 2 a) ∨ S 17 (8 * (40 * s + f) + x) = -1 := by
      by_cases e : x = a
      · subst e; omega
      · omega
    have w18 := pw_18 hW (8 * (40 * s + f) + x)
    refine ⟨by omega, ?_, fun b b0 b1 => ?_⟩
    · rw [k2]
      by_cases e : S 17 (8 * (40 * s + f) + x) = -1
      · rw [if_pos e, if_pos e]
      · rw [if_neg e, if_neg e, rz_pub_3, if_neg (hne.resolve_right e)]
    · have e : ¬ S 17 (8 * (40 * s + f) + x) = -1 := fun e => by rw [k2, if_pos e] at b1; omega
      rw [k3 b b0 b1, rz_po_pub hW ha0 ha1 (hne.resolve_right e) b (by omega) (by omega)]
theorem rz_J_pub (hW : pz_W S) (hJ : rz_J S) (ha0 : 0 ≤ a) (ha1 : a < 8) (haA : a < S 1 0) (h12 : S 2 a < 12) : rz_J (pz_pub S a) := by
  have w1 := pw_1 hW 0
  have w2 := pw_2 hW a
  have w3 := pw_3 hW a
  have z3 := hJ.1.2 a (S 2 a) ha0 ha1 (Int.le_refl _) h12
  have tt : ∀ t, t ∉ [2, 3, 4, 5, 6, 7, 8] → pz_pub S a t = S t := fun t ht => rz_pub_t (fun e => ht (by rw [e]; decide)) (fun e => ht (by rw [e]; decide)) (fun e => ht (by rw [e]; decide)) (fun e => ht (by rw [e]; decide)) (fun e => ht (by rw [e]; decide)) (fun e => ht (by rw [e]; decide)) (fun e => ht (by rw [e]; decide))
  refine ⟨⟨?_, ?_⟩, ?_, ?_, ?_⟩
  · rw [tt 1 (by decide)]
    intro x x0 x1
    rw [rz_pub_2, rz_pub_3, if_neg (by omega), if_neg (by omega)]
    exact hJ.1.1 x x0 x1
  · intro x v x0 x1 v0 v1
    rw [rz_pub_2] at v0
    rw [rz_pub_3]
    by_cases e : x = a
    · subst e
      rw [if_pos rfl] at v0
      rw [if_neg (by omega)]
      exact hJ.1.2 x v x0 x1 (by omega) v1
    · rw [if_neg e] at v0
      have w2x := pw_2 hW x
      rw [if_neg (by omega)]
      exact hJ.1.2 x v x0 x1 v0 v1
  · intro r b r0 r1 b0 b1
    rw [rz_pub_3] at b0
    have w3r := pw_3 hW r
    by_cases e : r = (8 + 12 * a + S 2 a)
    · rw [if_pos e] at b0
      have q := hJ.2.1 r b r0 r1 (by rw [e, z3]; omega) b1
      rw [rz_pub_4 hW ha0 ha1, if_neg (by omega), rz_pub_5 hW ha0 ha1, if_neg (by omega)]
      refine ⟨q.1, q.2.1, fun k k0 k1 => ?_⟩
      rw [rz_pub_6o hW ha0 ha1 (by omega), rz_pub_7o hW ha0 ha1 (by omega), rz_pub_8o hW ha0 ha1 (by omega)]
      exact q.2.2 k k0 k1
    · rw [if_neg e] at b0
      have q := hJ.2.1 r b r0 r1 b0 b1
      rw [rz_pub_4 hW ha0 ha1, if_neg (by omega), rz_pub_5 hW ha0 ha1, if_neg (by omega)]
      refine ⟨q.1, q.2.1, fun k k0 k1 => ?_⟩
      rw [rz_pub_6o hW ha0 ha1 (by omega), rz_pub_7o hW ha0 ha1 (by omega), rz_pub_8o hW ha0 ha1 (by omega)]
      exact q.2.2 k k0 k1
  · rw [tt 9 (by decide), tt 11 (by decide), tt 16 (by decide)]; exact hJ.2.2.1
  · rw [tt 21 (by decide), tt 24 (by decide), tt 25 (by decide)]; exact hJ.2.2.2
/-- enough steps -/
theorem rz_po_s (hW : pz_W S) (hV : pz_V S) {r f : Int} (hr0 : 0 ≤ r) (hr1 : r < 104) : ∀ (n : Nat) (b : Int), -1 ≤ b → b < n → b < S 3 r → pz_po S r f (n + 1) b = pz_po S r f n b := by
  intro n
  induction n with
  | zero => intro b h1 h2 h3; show (if b = -1 then _ else _) = _; rw [if_pos (by omega)]; rfl
  | succ n ih =>
    intro b h1 h2 h3
    show (if b = -1 then 0 else pz_val S (10 * r + b) f + pz_po S r f (n + 1) (S 4 (10 * r + b))) = if b = -1 then 0 else pz_val S (10 * r + b) f + pz_po S r f n (S 4 (10 * r + b))
    by_cases c : b = -1
    · rw [if_pos c, if_pos c]
    · have w := pw_4 hW (10 * r + b)
      have v := hV.2 r b hr0 hr1 (by omega) h3
      rw [if_neg c, if_neg c, ih _ w.1 (by omega) (by omega)]
theorem rz_po_1 (hW : pz_W S) (hV : pz_V S) {r f b : Int} (hr0 : 0 ≤ r) (hr1 : r < 104) (h0 : 0 ≤ b) (h1 : b < S 3 r) : pz_po S r f 10 b = pz_val S (10 * r + b) f + (if S 4 (10 * r + b) = -1 then 0 else pz_po S r f 10 (S 4 (10 * r + b))) := by
  have w3 := pw_3 hW r
  have w := pw_4 hW (10 * r + b)
  have v := hV.2 r b hr0 hr1 h0 h1
  show (if b = -1 then 0 else pz_val S (10 * r + b) f + pz_po S r f 9 (S 4 (10 * r + b))) = _
  rw [if_neg (by omega), ← rz_po_s hW hV hr0 hr1 9 _ w.1 (by omega) (by omega)]
  by_cases c : S 4 (10 * r + b) = -1
  · have e : pz_po S r f 10 (S 4 (10 * r + b)) = 0 := if_pos c
    rw [if_pos c, e]
  · rw [if_neg c]
end
