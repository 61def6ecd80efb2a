/-! the class's cells by tag and index: which are there (rz_lv), where they lie (ad), what they hold (rz_cp); Fo: places that aren't the class's -/
abbrev rz_A : Type := Nat → Int → Nat
def rz_rl (S : pz_S) (r : Int) : Prop := 0 ≤ r ∧ r < 104 ∧ (r < 8 → r < S 1 0) ∧ (8 ≤ r → (r - 8) / 12 < S 1 0 ∧ (r - 8) % 12 < S 2 ((r - 8) / 12))
def rz_lv (S : pz_S) : Nat → Int → Prop
  | 0, i => i = 0
  | 1, i => i = 0
  | 2, i => i = 0
  | 3, i => i = 0
  | 4, i => 0 ≤ i ∧ i < S 1 0
  | 5, i => 0 ≤ i ∧ i < S 1 0
  | 6, r => rz_rl S r
  | 7, r => rz_rl S r
  | 8, r => rz_rl S r
  | 9, r => rz_rl S r ∧ 8 ≤ r
  | 10, B => rz_rl S (B / 10) ∧ B % 10 < S 3 (B / 10)
  | 11, B => rz_rl S (B / 10) ∧ B % 10 < S 3 (B / 10)
  | 12, B => rz_rl S (B / 10) ∧ B % 10 < S 3 (B / 10)
  | 13, B => rz_rl S (B / 10) ∧ B % 10 < S 3 (B / 10)
  | 14, s => 0 ≤ s ∧ s < S 9 0
  | 15, s => 0 ≤ s ∧ s < S 9 0
  | 16, s => 0 ≤ s ∧ s < S 9 0
  | 17, p => 0 ≤ p ∧ p / 40 < S 9 0 ∧ p % 40 < S 10 (p / 40)
  | 18, p => 0 ≤ p ∧ p / 40 < S 9 0 ∧ p % 40 < S 10 (p / 40)
  | 19, c => 0 ≤ c ∧ c / 8 < S 9 0 ∧ ¬ S 11 c = 0
  | 20, n => 0 ≤ n ∧ n < S 21 0
  | _, _ => False
def rz_ai (e : va_E) (n : Nat) (F : Int → Int) : Prop := ∃ g, e = .inl (0, n, .inl g) ∧ ∀ j : Int, 0 ≤ j → j < n → g (iI j).toNatClampNeg = iI (F j)
def rz_aq (e : va_E) (kd n : Nat) (lo : Int) (F : Int → Option Nat) : Prop := ∃ g, e = .inl (kd, n, .inr (.inr (.inr (.inr g)))) ∧ ∀ j : Int, 0 ≤ j → j < lo → g (iI j).toNatClampNeg = F j
def rz_tb (S : pz_S) (r : Int) (e : va_E) : Prop := ∃ (g : Nat → Int32) (N : Nat), e = .inl (0, N, .inl g) ∧ (N : Int) = 40 * S 3 r ∧ ∀ f b : Int, 0 ≤ f → f < 40 → 0 ≤ b → b < S 3 r → g (iI (f * S 3 r + b)).toNatClampNeg = iI (pz_po S r f 10 b)
def rz_cp (S : pz_S) (ad : rz_A) : Nat → Int → va_E → Prop
  | 0, _, e => e = .inr (7, [.ref (ad 1 0), .ref (ad 2 0), .ref (ad 3 0), .int (iI (S 1 0)), .int (iI (S 9 0)), .int (iI (S 21 0)), .int (iI (S 20 0))])
  | 1, _, e => rz_aq e 10 8 (S 1 0) (fun a => some (ad 4 a))
  | 2, _, e => rz_aq e 16 8 (S 9 0) (fun s => some (ad 14 s))
  | 3, _, e => rz_aq e 14 40 (S 21 0) (fun n => some (ad 20 n))
  | 4, a, e => e = .inr (0, [.ref (ad 6 a), .ref (ad 5 a), .int (iI (S 2 a))])
  | 5, a, e => rz_aq e 15 12 (S 2 a) (fun v => some (ad 6 (8 + 12 * a + v)))
  | 6, r, e => e = .inr (5, [.ref (ad 7 r), .ref (ad 8 r), .int (iI (S 3 r)), if r < 8 then .null else .ref (ad 9 r)])
  | 7, r, e => rz_ai e 10 (fun i => S 4 (10 * r + i))
  | 8, r, e => rz_aq e 12 10 (S 3 r) (fun b => some (ad 10 (10 * r + b)))
  | 9, r, e => rz_tb S r e
  | 10, B, e => e = .inr (2, [.ref (ad 11 B), .ref (ad 12 B), .ref (ad 13 B), .int (iI (S 5 B))])
  | 11, B, e => rz_ai e 12 (fun i => S 6 (12 * B + i))
  | 12, B, e => rz_ai e 12 (fun i => S 7 (12 * B + i))
  | 13, B, e => rz_ai e 12 (fun i => S 8 (12 * B + i))
  | 14, s, e => e = .inr (6, [.ref (ad 15 s), .ref (ad 16 s), .int (iI (S 10 s)), .int (iI (pz_sm (fun a => pz_ca S a s) 0 8))])
  | 15, s, e => rz_aq e 13 40 (S 10 s) (fun i => some (ad 17 (40 * s + i)))
  | 16, s, e => rz_aq e 11 8 8 (fun a => if S 11 (8 * s + a) = 0 then none else some (ad 19 (8 * s + a)))
  | 17, p, e => e = .inr (3, [.int (iI (S 15 p)), .ref (ad 18 p), .int (iI (S 16 p))])
  | 18, p, e => rz_ai e 8 (fun a => if S 16 p = 0 then -1 else S 17 (8 * p + a))
  | 19, c, e => e = .inr (1, [.int (iI (S 12 c)), .int (iI (S 13 c)), .int (iI (S 14 c))])
  | 20, n, e => e = .inr (4, [.int (iI (S 22 n)), .int (iI (S 23 n)), .int (iI (S 25 n)), .int (iI (S 24 n))])
  | _, _, _ => True
theorem rz_tag {P : Nat → Prop} (h0 : P 0) (h1 : P 1) (h2 : P 2) (h3 : P 3) (h4 : P 4) (h5 : P 5) (h6 : P 6) (h7 : P 7) (h8 : P 8) (h9 : P 9) (h10 : P 10) (h11 : P 11) (h12 : P 12) (h13 : P 13) (h14 : P 14) (h15 : P 15) (h16 : P 16) (h17 : P 17) (h18 : P 18) (h19 : P 19) (h20 : P 20) (hd : ∀ t, P (t + 21)) : ∀ t, P t := fun t => match t with
  | 0 => h0
  | 1 => h1
  | 2 => h2
  | 3 => h3
  | 4 => h4
  | 5 => h5
  | 6 => h6
  | 7 => h7
  | 8 => h8
  | 9 => h9
  | 10 => h10
  | 11 => h11
  | 12 => h12
  | 13 => h13
  | 14 => h14
  | 15 => h15
  | 16 => h16
  | 17 => h17
  | 18 => h18
  | 19 => h19
  | 20 => h20
  | t + 21 => hd t
/-- the class is as S says -/
def rz_R (σ : mb_S) (S : pz_S) (ad : rz_A) (Fo : Nat → Prop) : Prop := (∀ t i, rz_lv S t i → (∃ e, σ.1 (ad t i) = some e ∧ rz_cp S ad t i e) ∧ ad t i < σ.2.1 ∧ ¬ Fo (ad t i)) ∧ (∀ t i t' i', rz_lv S t i → rz_lv S t' i' → ad t i = ad t' i' → t = t' ∧ i = i') ∧ ∀ q, Fo q → q < σ.2.1
section
variable {σ σ' : mb_S} {S S' : pz_S} {ad ad' : rz_A} {Fo : Nat → Prop}
theorem rz_ne (h : rz_R σ S ad Fo) {t t' : Nat} {i i' : Int} (h1 : rz_lv S t i) (h2 : rz_lv S t' i') (hn : ¬ (t = t' ∧ i = i')) : ad t i ≠ ad t' i' := fun e => hn (h.2.1 t i t' i' h1 h2 e)
/-- what a cell of a tag rests on -/
def rz_dp (S S' : pz_S) (ad ad' : rz_A) : Nat → Int → Prop
  | 0, _ => (S' 1 0 = S 1 0 ∧ S' 9 0 = S 9 0 ∧ S' 21 0 = S 21 0 ∧ S' 20 0 = S 20 0) ∧ ad' 1 0 = ad 1 0 ∧ ad' 2 0 = ad 2 0 ∧ ad' 3 0 = ad 3 0
  | 1, _ => S' 1 0 = S 1 0 ∧ ∀ a, 0 ≤ a → a < S 1 0 → ad' 4 a = ad 4 a
  | 2, _ => S' 9 0 = S 9 0 ∧ ∀ s, 0 ≤ s → s < S 9 0 → ad' 14 s = ad 14 s
  | 3, _ => S' 21 0 = S 21 0 ∧ ∀ n, 0 ≤ n → n < S 21 0 → ad' 20 n = ad 20 n
  | 4, a => S' 2 a = S 2 a ∧ ad' 6 a = ad 6 a ∧ ad' 5 a = ad 5 a
  | 5, a => S' 2 a = S 2 a ∧ ∀ v, 0 ≤ v → v < S 2 a → ad' 6 (8 + 12 * a + v) = ad 6 (8 + 12 * a + v)
  | 6, r => S' 3 r = S 3 r ∧ ad' 7 r = ad 7 r ∧ ad' 8 r = ad 8 r ∧ (8 ≤ r → ad' 9 r = ad 9 r)
  | 7, r => ∀ i, 0 ≤ i → i < 10 → S' 4 (10 * r + i) = S 4 (10 * r + i)
  | 8, r => S' 3 r = S 3 r ∧ ∀ b, 0 ≤ b → b < S 3 r → ad' 10 (10 * r + b) = ad 10 (10 * r + b)
  | 9, r => S' 3 r = S 3 r ∧ ∀ f b : Int, 0 ≤ f → f < 40 → 0 ≤ b → b < S 3 r → pz_po S' r f 10 b = pz_po S r f 10 b
  | 10, B => S' 5 B = S 5 B ∧ ad' 11 B = ad 11 B ∧ ad' 12 B = ad 12 B ∧ ad' 13 B = ad 13 B
  | 11, B => ∀ i, 0 ≤ i → i < 12 → S' 6 (12 * B + i) = S 6 (12 * B + i)
  | 12, B => ∀ i, 0 ≤ i → i < 12 → S' 7 (12 * B + i) = S 7 (12 * B + i)
  | 13, B => ∀ i, 0 ≤ i → i < 12 → S' 8 (12 * B + i) = S 8 (12 * B + i)
  | 14, s => S' 10 s = S 10 s ∧ (∀ a, 0 ≤ a → a < 8 → S' 11 (8 * s + a) = S 11 (8 * s + a)) ∧ ad' 15 s = ad 15 s ∧ ad' 16 s = ad 16 s
  | 15, s => S' 10 s = S 10 s ∧ ∀ i, 0 ≤ i → i < S 10 s → ad' 17 (40 * s + i) = ad 17 (40 * s + i)
  | 16, s => ∀ a, 0 ≤ a → a < 8 → S' 11 (8 * s + a) = S 11 (8 * s + a) ∧ (¬ S 11 (8 * s + a) = 0 → ad' 19 (8 * s + a) = ad 19 (8 * s + a))
  | 17, p => S' 15 p = S 15 p ∧ S' 16 p = S 16 p ∧ ad' 18 p = ad 18 p
  | 18, p => S' 16 p = S 16 p ∧ ∀ a, 0 ≤ a → a < 8 → S' 17 (8 * p + a) = S 17 (8 * p + a)
  | 19, c => S' 12 c = S 12 c ∧ S' 13 c = S 13 c ∧ S' 14 c = S 14 c
  | 20, n => S' 22 n = S 22 n ∧ S' 23 n = S 23 n ∧ S' 24 n = S 24 n ∧ S' 25 n = S 25 n
  | _, _ => True
theorem rz_ai_c {e : va_E} {n : Nat} {F F' : Int → Int} (h : ∀ j : Int, 0 ≤ j → j < n → F' j = F j) : rz_ai e n F → rz_ai e n F' := fun ⟨g, h1, h2⟩ => ⟨g, h1, fun j j1 j2 => by rw [h2 j j1 j2, h j j1 j2]⟩
theorem rz_aq_c {e : va_E} {kd n : Nat} {lo lo' : Int} {F F' : Int → Option Nat} (hl : lo' = lo) (h : ∀ j : Int, 0 ≤ j → j < lo → F' j = F j) : rz_aq e kd n lo F → rz_aq e kd n lo' F' := fun ⟨g, h1, h2⟩ => ⟨g, h1, fun j j1 j2 => by rw [h2 j j1 (hl ▸ j2), h j j1 (hl ▸ j2)]⟩
theorem rz_cp_c : ∀ (t : Nat) {i : Int} {e : va_E}, rz_dp S S' ad ad' t i → rz_cp S ad t i e → rz_cp S' ad' t i e := by
  refine rz_tag (fun {i e} h c => ?_) (fun {i e} h c => ?_) (fun {i e} h c => ?_) (fun {i e} h c => ?_) (fun {i e} h c => ?_) (fun {i e} h c => ?_) (fun {i e} h c => ?_) (fun {i e} h c => ?_) (fun {i e} h c => ?_) (fun {i e} h c => ?_) (fun {i e} h c => ?_) (fun {i e} h c => ?_) (fun {i e} h c => ?_) (fun {i e} h c => ?_) (fun {i e} h c => ?_) (fun {i e} h c => ?_) (fun {i e} h c => ?_) (fun {i e} h c => ?_) (fun {i e} h c => ?_) (fun {i e} h c => ?_) (fun {i e} h c => ?_) (fun t {i e} h c => ?_)
  · obtain ⟨⟨a1, a2, a3, a4⟩, a5, a6, a7⟩ := h
    show _ = _
    rw [a1, a2, a3, a4, a5, a6, a7]; exact c
  · exact rz_aq_c h.1 (fun j j1 j2 => by show some (ad' 4 j) = _; rw [h.2 j j1 j2]) c
  · exact rz_aq_c h.1 (fun j j1 j2 => by show some (ad' 14 j) = _; rw [h.2 j j1 j2]) c
  · exact rz_aq_c h.1 (fun j j1 j2 => by show some (ad' 20 j) = _; rw [h.2 j j1 j2]) c
  · obtain ⟨a1, a2, a3⟩ := h
    show _ = _
    rw [a1, a2, a3]; exact c
  · exact rz_aq_c h.1 (fun j j1 j2 => by show some (ad' 6 (8 + 12 * i + j)) = _; rw [h.2 j j1 j2]) c
  · obtain ⟨a1, a2, a3, a4⟩ := h
    have a5 : (if i < 8 then Value.null else .ref (ad' 9 i)) = if i < 8 then Value.null else .ref (ad 9 i) := by
      by_cases k : i < 8
      · rw [if_pos k, if_pos k]
      · rw [if_neg k, if_neg k, a4 (by omega)]
    show _ = _
    rw [a1, a2, a3, a5]; exact c
  · exact rz_ai_c (fun j j1 j2 => h j j1 (by omega)) c
  · exact rz_aq_c h.1 (fun j j1 j2 => by show some (ad' 10 (10 * i + j)) = _; rw [h.2 j j1 j2]) c
  · obtain ⟨a1, a2⟩ := h
    obtain ⟨g, N, c1, c2, c3⟩ := c
    refine ⟨g, N, c1, by rw [a1]; exact c2, fun f b f1 f2 b1 b2 => ?_⟩
    rw [a1] at b2 ⊢
    rw [c3 f b f1 f2 b1 b2, a2 f b f1 f2 b1 b2]
  · obtain ⟨a1, a2, a3, a4⟩ := h
    show _ = _
    rw [a1, a2, a3, a4]; exact c
  · exact rz_ai_c (fun j j1 j2 => h j j1 (by omega)) c
  · exact rz_ai_c (fun j j1 j2 => h j j1 (by omega)) c
  · exact rz_ai_c (fun j j1 j2 => h j j1 (by omega)) c
  · obtain ⟨a1, a2, a3, a4⟩ := h
    have a5 : pz_sm (fun a => pz_ca S' a i) 0 8 = pz_sm (fun a => pz_ca S a i) 0 8 := pz_sm_congr _ _ (fun j j1 j2 => by show pz_b (¬ S' 11 (8 * i + j) = 0) = pz_b (¬ S 11 (8 * i + j) = 0); simp only [a2 j j1 (by omega)])
    show _ = _
    rw [a1, a3, a4, a5]; exact c
  · exact rz_aq_c h.1 (fun j j1 j2 => by show some (ad' 17 (40 * i + j)) = _; rw [h.2 j j1 j2]) c
  · refine rz_aq_c rfl (fun j j1 j2 => ?_) c
    obtain ⟨a1, a2⟩ := h j j1 j2
    show (if S' 11 (8 * i + j) = 0 then none else some (ad' 19 (8 * i + j))) = if S 11 (8 * i + j) = 0 then none else some (ad 19 (8 * i + j))
    rw [a1]
    by_cases k : S 11 (8 * i + j) = 0
    · rw [if_pos k, if_pos k]
    · rw [if_neg k, if_neg k, a2 k]
  · obtain ⟨a1, a2, a3⟩ := h
    show _ = _
    rw [a1, a2, a3]; exact c
  · exact rz_ai_c (fun j j1 j2 => by show (if S' 16 i = 0 then -1 else S' 17 (8 * i + j)) = _; rw [h.1, h.2 j j1 (by omega)]) c
  · obtain ⟨a1, a2, a3⟩ := h
    show _ = _
    rw [a1, a2, a3]; exact c
  · obtain ⟨a1, a2, a3, a4⟩ := h
    show _ = _
    rw [a1, a2, a3, a4]; exact c
  · exact True.intro
theorem rz_k (h : rz_R σ S ad Fo) {t : Nat} {i : Int} (hl : rz_lv S t i) (ha : ad' t i = ad t i) (hs : σ'.1 (ad t i) = σ.1 (ad t i)) (hd : rz_dp S S' ad ad' t i) : ∃ e, σ'.1 (ad' t i) = some e ∧ rz_cp S' ad' t i e := by
  obtain ⟨e, e1, e2⟩ := (h.1 t i hl).1
  exact ⟨e, by rw [ha, hs]; exact e1, rz_cp_c t hd e2⟩
theorem rz_g (h : rz_R σ S ad Fo) (hn : σ.2.1 ≤ σ'.2.1) (π : Nat → Int → Int) (hk : ∀ t i, rz_lv S' t i → (∃ e, σ'.1 (ad' t i) = some e ∧ rz_cp S' ad' t i e) ∧ ((rz_lv S t (π t i) ∧ ad' t i = ad t (π t i)) ∨ (σ.2.1 ≤ ad' t i ∧ ad' t i < σ'.2.1))) (hp : ∀ t i i', rz_lv S' t i → rz_lv S' t i' → π t i = π t i' → i = i') (hj : ∀ t i t' i', rz_lv S' t i → rz_lv S' t' i' → σ.2.1 ≤ ad' t i → ad' t i = ad' t' i' → t = t' ∧ i = i') : rz_R σ' S' ad' Fo := by
  refine ⟨fun t i hl => ⟨(hk t i hl).1, ?_⟩, fun t i t' i' hl hl' he => ?_, fun q hq => Nat.lt_of_lt_of_le (h.2.2 q hq) hn⟩
  · cases (hk t i hl).2 with
    | inl g =>
      rw [g.2]
      have := (h.1 t _ g.1).2
      exact ⟨Nat.lt_of_lt_of_le this.1 hn, this.2⟩
    | inr g => exact ⟨g.2, fun hf => by have := h.2.2 _ hf; omega⟩
  · cases (hk t i hl).2 with
    | inr g => exact hj t i t' i' hl hl' g.1 he
    | inl g =>
      cases (hk t' i' hl').2 with
      | inr g' =>
        have := hj t' i' t i hl' hl g'.1 he.symm
        exact ⟨this.1.symm, this.2.symm⟩
      | inl g' =>
        have k := h.2.1 t _ t' _ g.1 g'.1 (by rw [← g.2, ← g'.2]; exact he)
        obtain ⟨k1, k2⟩ := k
        subst k1
        exact ⟨rfl, hp t i i' hl hl' k2⟩
/-- no cells made: ad as it was -/
theorem rz_w (h : rz_R σ S ad Fo) (hn : σ.2.1 ≤ σ'.2.1) (hl : ∀ t i, rz_lv S' t i → rz_lv S t i) (hc : ∀ t i, rz_lv S' t i → rz_lv S t i → (σ'.1 (ad t i) = σ.1 (ad t i) ∧ rz_dp S S' ad ad t i) ∨ ∃ e, σ'.1 (ad t i) = some e ∧ rz_cp S' ad t i e) : rz_R σ' S' ad Fo :=
  ⟨fun t i k => ⟨(hc t i k (hl t i k)).elim (fun g => rz_k h (hl t i k) rfl g.1 g.2) id, Nat.lt_of_lt_of_le (h.1 t i (hl t i k)).2.1 hn, (h.1 t i (hl t i k)).2.2⟩, fun t i t' i' k k' e => h.2.1 t i t' i' (hl t i k) (hl t' i' k') e, fun q hq => Nat.lt_of_lt_of_le (h.2.2 q hq) hn⟩
/-- poses rest on the rig alone -/
theorem rz_fd_c {c c' : Int → Prop} [DecidablePred c] [DecidablePred c'] : ∀ (n : Nat) (a : Int), (∀ j, a ≤ j → j < a + n → (c j ↔ c' j)) → pz_fd c a n = pz_fd c' a n := by
  intro n
  induction n with
  | zero => intro a h; rfl
  | succ n ih =>
    intro a h
    show (if c a then a else pz_fd c (a + 1) n) = if c' a then a else pz_fd c' (a + 1) n
    have k := h a (by omega) (by omega)
    rw [ih (a + 1) (fun j h1 h2 => h j (by omega) (by omega))]
    by_cases x : c a
    · rw [if_pos x, if_pos (k.1 x)]
    · rw [if_neg x, if_neg (fun y => x (k.2 y))]
def rz_sv (S S' : pz_S) (B : Int) : Prop := S' 5 B = S 5 B ∧ ∀ k, 0 ≤ k → k < 12 → S' 6 (12 * B + k) = S 6 (12 * B + k) ∧ S' 7 (12 * B + k) = S 7 (12 * B + k) ∧ S' 8 (12 * B + k) = S 8 (12 * B + k)
theorem rz_kA (hW : pz_W S) {B f : Int} (h : rz_sv S S' B) : pz_kA S' B f = pz_kA S B f := by
  have w := pw_5 hW B
  unfold pz_kA
  rw [h.1]
  exact rz_fd_c _ _ (fun j j1 j2 => by rw [(h.2 j j1 (by omega)).1])
theorem rz_val (hW : pz_W S) {B f : Int} (h : rz_sv S S' B) : pz_val S' B f = pz_val S B f := by
  have w := pw_5 hW B
  have g := pz_kA_r hW B (f + 1)
  unfold pz_val
  rw [rz_kA hW h, h.1]
  have a0 := h.2 0 (by omega) (by omega)
  rw [Int.add_zero] at a0
  by_cases c0 : S 5 B = 0
  · rw [if_pos c0, if_pos c0]
  · rw [if_neg c0, if_neg c0]
    by_cases c1 : pz_kA S B (f + 1) = 0
    · rw [if_pos c1, if_pos c1, a0.2.1]
    · rw [if_neg c1, if_neg c1]
      have a1 := h.2 (pz_kA S B (f + 1) - 1) (by omega) (by omega)
      rw [a1.1, a1.2.1, a1.2.2]
      by_cases c2 : pz_kA S B (f + 1) = S 5 B ∨ S 8 (12 * B + (pz_kA S B (f + 1) - 1)) = 0
      · rw [if_pos c2, if_pos c2]
      · rw [if_neg c2, if_neg c2]
        have a2 := h.2 (pz_kA S B (f + 1) - 1 + 1) (by omega) (by omega)
        rw [← Int.add_assoc] at a2
        rw [a2.1, a2.2.1]
theorem rz_po (hW : pz_W S) {r f : Int} (h : ∀ b, 0 ≤ b → b < 10 → S' 4 (10 * r + b) = S 4 (10 * r + b) ∧ rz_sv S S' (10 * r + b)) : ∀ (n : Nat) (b : Int), -1 ≤ b → b < 10 → pz_po S' r f n b = pz_po S r f n b := by
  intro n
  induction n with
  | zero => intro b h1 h2; rfl
  | succ n ih =>
    intro b h1 h2
    show (if b = -1 then 0 else pz_val S' (10 * r + b) f + pz_po S' r f n (S' 4 (10 * r + b))) = if b = -1 then 0 else pz_val S (10 * r + b) f + pz_po S r f n (S 4 (10 * r + b))
    by_cases c : b = -1
    · rw [if_pos c, if_pos c]
    · have a := h b (by omega) h2
      have w := pw_4 hW (10 * r + b)
      rw [if_neg c, if_neg c, rz_val hW a.2, a.1, ih _ w.1 (by omega)]
end
