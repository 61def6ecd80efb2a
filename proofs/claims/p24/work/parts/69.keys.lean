/-! writers: what stays; keys of drafts; key and unkey of the class -/
section
variable {σ σ' : mb_S} {S S' : pz_S} {ad ad' : rz_A} {Fo : Nat → Prop}
def rz_ds : Nat → List Nat
  | 0 => [1, 9, 21, 20]
  | 1 => [1]
  | 2 => [9]
  | 3 => [21]
  | 4 => [2]
  | 5 => [2]
  | 6 => [3]
  | 7 => [4]
  | 8 => [3]
  | 9 => [3, 4, 5, 6, 7, 8]
  | 10 => [5]
  | 11 => [6]
  | 12 => [7]
  | 13 => [8]
  | 14 => [10, 11]
  | 15 => [10]
  | 16 => [11]
  | 17 => [15, 16]
  | 18 => [16, 17]
  | 19 => [12, 13, 14]
  | 20 => [22, 23, 24, 25]
  | _ => []
theorem rz_val0 {B f : Int} (e5 : S' 5 = S 5) (e6 : S' 6 = S 6) (e7 : S' 7 = S 7) (e8 : S' 8 = S 8) : pz_val S' B f = pz_val S B f := by
  unfold pz_val pz_kA
  rw [e5, e6, e7, e8]
theorem rz_po0 {r f : Int} (e4 : S' 4 = S 4) (e5 : S' 5 = S 5) (e6 : S' 6 = S 6) (e7 : S' 7 = S 7) (e8 : S' 8 = S 8) : ∀ (n : Nat) (b : Int), pz_po S' r f n b = pz_po S r f n b := by
  intro n
  induction n with
  | zero => intro b; rfl
  | succ n ih =>
    intro b
    show (if b = -1 then 0 else pz_val S' (10 * r + b) f + pz_po S' r f n (S' 4 (10 * r + b))) = if b = -1 then 0 else pz_val S (10 * r + b) f + pz_po S r f n (S 4 (10 * r + b))
    rw [rz_val0 e5 e6 e7 e8, e4, ih]
theorem rz_dss : ∀ (t : Nat) {i : Int}, (∀ x ∈ rz_ds t, S' x = S x) → rz_dp S S' ad ad t i := by
  refine rz_tag (fun {i} h => ?_) (fun {i} h => ?_) (fun {i} h => ?_) (fun {i} h => ?_) (fun {i} h => ?_) (fun {i} h => ?_) (fun {i} h => ?_) (fun {i} h => ?_) (fun {i} h => ?_) (fun {i} h => ?_) (fun {i} h => ?_) (fun {i} h => ?_) (fun {i} h => ?_) (fun {i} h => ?_) (fun {i} h => ?_) (fun {i} h => ?_) (fun {i} h => ?_) (fun {i} h => ?_) (fun {i} h => ?_) (fun {i} h => ?_) (fun {i} h => ?_) (fun t {i} h => True.intro)
  · have e1 := h 1 (by decide)
    have e9 := h 9 (by decide)
    have e21 := h 21 (by decide)
    have e20 := h 20 (by decide)
    exact ⟨⟨by rw [e1], by rw [e9], by rw [e21], by rw [e20]⟩, rfl, rfl, rfl⟩
  · have e1 := h 1 (by decide)
    exact ⟨by rw [e1], fun _ _ _ => rfl⟩
  · have e9 := h 9 (by decide)
    exact ⟨by rw [e9], fun _ _ _ => rfl⟩
  · have e21 := h 21 (by decide)
    exact ⟨by rw [e21], fun _ _ _ => rfl⟩
  · have e2 := h 2 (by decide)
    exact ⟨by rw [e2], rfl, rfl⟩
  · have e2 := h 2 (by decide)
    exact ⟨by rw [e2], fun _ _ _ => rfl⟩
  · have e3 := h 3 (by decide)
    exact ⟨by rw [e3], rfl, rfl, fun _ => rfl⟩
  · have e4 := h 4 (by decide)
    exact fun _ _ _ => by rw [e4]
  · have e3 := h 3 (by decide)
    exact ⟨by rw [e3], fun _ _ _ => rfl⟩
  · have e3 := h 3 (by decide)
    have e4 := h 4 (by decide)
    have e5 := h 5 (by decide)
    have e6 := h 6 (by decide)
    have e7 := h 7 (by decide)
    have e8 := h 8 (by decide)
    exact ⟨by rw [e3], fun f b _ _ _ _ => rz_po0 e4 e5 e6 e7 e8 10 b⟩
  · have e5 := h 5 (by decide)
    exact ⟨by rw [e5], rfl, rfl, rfl⟩
  · have e6 := h 6 (by decide)
    exact fun _ _ _ => by rw [e6]
  · have e7 := h 7 (by decide)
    exact fun _ _ _ => by rw [e7]
  · have e8 := h 8 (by decide)
    exact fun _ _ _ => by rw [e8]
  · have e10 := h 10 (by decide)
    have e11 := h 11 (by decide)
    exact ⟨by rw [e10], fun _ _ _ => by rw [e11], rfl, rfl⟩
  · have e10 := h 10 (by decide)
    exact ⟨by rw [e10], fun _ _ _ => rfl⟩
  · have e11 := h 11 (by decide)
    exact fun _ _ _ => ⟨by rw [e11], fun _ => rfl⟩
  · have e15 := h 15 (by decide)
    have e16 := h 16 (by decide)
    exact ⟨by rw [e15], by rw [e16], rfl⟩
  · have e16 := h 16 (by decide)
    have e17 := h 17 (by decide)
    exact ⟨by rw [e16], fun _ _ _ => by rw [e17]⟩
  · have e12 := h 12 (by decide)
    have e13 := h 13 (by decide)
    have e14 := h 14 (by decide)
    exact ⟨by rw [e12], by rw [e13], by rw [e14]⟩
  · have e22 := h 22 (by decide)
    have e23 := h 23 (by decide)
    have e24 := h 24 (by decide)
    have e25 := h 25 (by decide)
    exact ⟨by rw [e22], by rw [e23], by rw [e24], by rw [e25]⟩
theorem rz_lvs (h : ∀ x ∈ [1, 2, 3, 9, 10, 11, 21], S' x = S x) : ∀ (t : Nat) {i : Int}, rz_lv S' t i → rz_lv S t i := by
  have e1 := h 1 (by decide)
  have e2 := h 2 (by decide)
  have e3 := h 3 (by decide)
  have e9 := h 9 (by decide)
  have e10 := h 10 (by decide)
  have e11 := h 11 (by decide)
  have e21 := h 21 (by decide)
  have er : ∀ r, rz_rl S' r → rz_rl S r := fun r ⟨k1, k2, k3, k4⟩ => ⟨k1, k2, by rw [← e1]; exact k3, by rw [← e1, ← e2]; exact k4⟩
  refine rz_tag (fun {i} k => k) (fun {i} k => k) (fun {i} k => k) (fun {i} k => k) (fun {i} k => ⟨k.1, by rw [← e1]; exact k.2⟩) (fun {i} k => ⟨k.1, by rw [← e1]; exact k.2⟩) (fun {i} k => er _ k) (fun {i} k => er _ k) (fun {i} k => er _ k) (fun {i} k => ⟨er _ k.1, k.2⟩) (fun {i} k => ⟨er _ k.1, by rw [← e3]; exact k.2⟩) (fun {i} k => ⟨er _ k.1, by rw [← e3]; exact k.2⟩) (fun {i} k => ⟨er _ k.1, by rw [← e3]; exact k.2⟩) (fun {i} k => ⟨er _ k.1, by rw [← e3]; exact k.2⟩) (fun {i} k => ⟨k.1, by rw [← e9]; exact k.2⟩) (fun {i} k => ⟨k.1, by rw [← e9]; exact k.2⟩) (fun {i} k => ⟨k.1, by rw [← e9]; exact k.2⟩) (fun {i} k => ⟨k.1, by rw [← e9]; exact k.2.1, by rw [← e10]; exact k.2.2⟩) (fun {i} k => ⟨k.1, by rw [← e9]; exact k.2.1, by rw [← e10]; exact k.2.2⟩) (fun {i} k => ⟨k.1, by rw [← e9]; exact k.2.1, by rw [← e11]; exact k.2.2⟩) (fun {i} k => ⟨k.1, by rw [← e21]; exact k.2⟩) (fun t {i} k => k)
theorem rz_w2 (h : rz_R σ S ad Fo) (hn : σ.2.1 ≤ σ'.2.1) (ch ts : List Nat) (hS : ∀ x, x ∉ ch → S' x = S x) (hl : ∀ t i, rz_lv S' t i → rz_lv S t i) (hds : ∀ t, t ∉ ts → ∀ x ∈ rz_ds t, x ∉ ch) (hag : ∀ t i, rz_lv S t i → t ∉ ts → σ'.1 (ad t i) = σ.1 (ad t i)) (hc : ∀ t i, t ∈ ts → rz_lv S' t i → rz_lv S t i → (σ'.1 (ad t i) = σ.1 (ad t i) ∧ rz_dp S S' ad ad t i) ∨ ∃ e, σ'.1 (ad t i) = some e ∧ rz_cp S' ad t i e) : rz_R σ' S' ad Fo := by
  refine rz_w h hn hl (fun t i k' k => ?_)
  by_cases hm : t ∈ ts
  · exact hc t i hm k' k
  · exact Or.inl ⟨hag t i k hm, rz_dss t (fun x hx => hS x (hds t hm x hx))⟩
theorem rz_cpAi {a n : Nat} {F : Int → Int} (h : pz_Ar σ a n F) : ∃ e, σ.1 a = some e ∧ rz_ai e n F := by
  obtain ⟨g, g1, g2⟩ := h
  exact ⟨_, g1, g, rfl, g2⟩
/-- a curve of a draft is changed -/
theorem rz_L1 (hW : pz_W S) (h : rz_R σ S ad Fo) {B : Int} (hlB : rz_rl S (B / 10) ∧ B % 10 < S 3 (B / 10)) (hB : B < 80) (hC : pz_Cv σ' S' B (ad 10 B) (ad 11 B) (ad 12 B) (ad 13 B)) (hA : rz_ag σ σ' (ad 10 B) (ad 11 B) (ad 12 B) (ad 13 B)) (hS : ∀ x, x ∉ [5, 6, 7, 8] → S' x = S x) (h5 : ∀ x, x ≠ B → S' 5 x = S 5 x) (h6 : ∀ x, (x < 12 * B ∨ 12 * B + 12 ≤ x) → S' 6 x = S 6 x ∧ S' 7 x = S 7 x ∧ S' 8 x = S 8 x) : rz_R σ' S' ad Fo := by
  have ag : ∀ t i, rz_lv S t i → (t ∉ [10, 11, 12, 13] ∨ i ≠ B) → σ'.1 (ad t i) = σ.1 (ad t i) := fun t i hl k => hA.2 _ (rz_ne h hl (t' := 10) hlB (fun g => k.elim (fun k => k (by rw [g.1]; decide)) (fun k => k g.2))) (rz_ne h hl (t' := 11) hlB (fun g => k.elim (fun k => k (by rw [g.1]; decide)) (fun k => k g.2))) (rz_ne h hl (t' := 12) hlB (fun g => k.elim (fun k => k (by rw [g.1]; decide)) (fun k => k g.2))) (rz_ne h hl (t' := 13) hlB (fun g => k.elim (fun k => k (by rw [g.1]; decide)) (fun k => k g.2)))
  obtain ⟨c0, c1, c2, c3⟩ := hC
  refine rz_w2 h (by rw [hA.1]; exact Nat.le_refl _) [5, 6, 7, 8] [9, 10, 11, 12, 13] hS (fun t i => rz_lvs (fun x hx => hS x (by revert x; decide)) t) (rz_tag (by decide) (by decide) (by decide) (by decide) (by decide) (by decide) (by decide) (by decide) (by decide) (by decide) (by decide) (by decide) (by decide) (by decide) (by decide) (by decide) (by decide) (by decide) (by decide) (by decide) (by decide) (fun t _ x hx => absurd hx (by simp [rz_ds]))) (fun t i hl hm => ag t i hl (Or.inl (fun g => hm (List.mem_cons_of_mem _ g)))) (fun t i hm k' k => ?_)
  simp only [List.mem_cons, List.not_mem_nil, or_false] at hm
  rcases hm with e | e | e | e | e <;> subst e
  · refine Or.inl ⟨ag 9 i k (Or.inl (by decide)), by rw [hS 3 (by decide)], fun f b f1 f2 b1 b2 => ?_⟩
    have w := pw_3 hW i
    have k8 := k.2
    refine rz_po hW (fun b b1 b2 => ⟨by rw [hS 4 (by decide)], h5 _ (by omega), fun k k1 k2 => h6 _ (by omega)⟩) 10 b (by omega) (by omega)
  · by_cases e : i = B
    · subst e
      exact Or.inr ⟨_, c0, rfl⟩
    · exact Or.inl ⟨ag 10 i k (Or.inr e), h5 i e, rfl, rfl, rfl⟩
  · by_cases e : i = B
    · subst e
      exact Or.inr (rz_cpAi c1)
    · exact Or.inl ⟨ag 11 i k (Or.inr e), fun k k1 k2 => (h6 _ (by omega)).1⟩
  · by_cases e : i = B
    · subst e
      exact Or.inr (rz_cpAi c2)
    · exact Or.inl ⟨ag 12 i k (Or.inr e), fun k k1 k2 => (h6 _ (by omega)).2.1⟩
  · by_cases e : i = B
    · subst e
      exact Or.inr (rz_cpAi c3)
    · exact Or.inl ⟨ag 13 i k (Or.inr e), fun k k1 k2 => (h6 _ (by omega)).2.2⟩
theorem rz_D4 (h : rz_R σ S ad Fo) {B : Int} (hlB : rz_rl S (B / 10) ∧ B % 10 < S 3 (B / 10)) : rz_d4 (ad 10 B) (ad 11 B) (ad 12 B) (ad 13 B) := by
  have k : ∀ t t' : Nat, rz_lv S t B → rz_lv S t' B → t ≠ t' → ad t B ≠ ad t' B := fun t t' a b c => rz_ne h a b (fun g => c g.1)
  exact ⟨⟨k 10 11 hlB hlB (by decide), k 10 12 hlB hlB (by decide), k 10 13 hlB hlB (by decide), k 11 12 hlB hlB (by decide), k 11 13 hlB hlB (by decide), k 12 13 hlB hlB (by decide)⟩, k 11 10 hlB hlB (by decide), k 12 10 hlB hlB (by decide), k 13 10 hlB hlB (by decide), k 12 11 hlB hlB (by decide), k 13 11 hlB hlB (by decide), k 13 12 hlB hlB (by decide)⟩
/-- what isn't the class's stays; few cells are made -/
def rz_F (Fo : Nat → Prop) (σ σ' : mb_S) : Prop := (∀ q, Fo q → σ'.1 q = σ.1 q) ∧ σ.2.1 ≤ σ'.2.1 ∧ σ'.2.1 ≤ σ.2.1 + 100 ∧ σ'.2.2 ≤ σ.2.2 + 1000
theorem rz_Fag (h : rz_R σ S ad Fo) {B : Int} (hlB : rz_rl S (B / 10) ∧ B % 10 < S 3 (B / 10)) (hA : rz_ag σ σ' (ad 10 B) (ad 11 B) (ad 12 B) (ad 13 B)) : rz_F Fo σ σ' := by
  have k : ∀ t, rz_lv S t B → ∀ q, Fo q → q ≠ ad t B := fun t hl q hq e => (h.1 t B hl).2.2 (e ▸ hq)
  refine ⟨fun q hq => hA.2 q (k 10 hlB q hq) (k 11 hlB q hq) (k 12 hlB q hq) (k 13 hlB q hq), ?_, ?_, ?_⟩ <;> rw [hA.1] <;> omega
theorem rz_lB (hW : pz_W S) {a b : Int} (h : pz_isB S a (-1) b) : (rz_rl S ((10 * a + b) / 10) ∧ (10 * a + b) % 10 < S 3 ((10 * a + b) / 10)) ∧ 10 * a + b < 80 ∧ 0 ≤ 10 * a + b := by
  obtain ⟨⟨⟨h1, h2⟩, _⟩, h3, h4⟩ := h
  have e : pz_rg a (-1) = a := if_pos rfl
  rw [e] at h4
  have w := pw_1 hW 0
  have w3 := pw_3 hW a
  exact ⟨rz_lc hW (rz_rlD hW h1 (by omega)) h3 (by omega), by omega, by omega⟩
theorem pz_sh_o {B : Int} : ∀ (n : Nat) (k : Int) (S : pz_S) (x : Int), k < 12 → 0 ≤ k - n → (x < 12 * B ∨ 12 * B + 12 ≤ x) → pz_sh B n k S 6 x = S 6 x ∧ pz_sh B n k S 7 x = S 7 x ∧ pz_sh B n k S 8 x = S 8 x := by
  intro n
  induction n with
  | zero => intro k S x _ _ _; exact ⟨rfl, rfl, rfl⟩
  | succ n ih =>
    intro k S x h1 h2 h3
    have i1 := ih (k - 1) (pz_cp S (12 * B + k - 1) (12 * B + k)) x (by omega) (by omega) h3
    exact ⟨i1.1.trans (by rw [pz_cp_6, if_neg (by omega)]), i1.2.1.trans (by rw [pz_cp_7, if_neg (by omega)]), i1.2.2.trans (by rw [pz_cp_8, if_neg (by omega)])⟩
theorem pz_sd_o {B : Int} : ∀ (n : Nat) (k : Int) (S : pz_S) (x : Int), 0 ≤ k → k + n < 12 → (x < 12 * B ∨ 12 * B + 12 ≤ x) → pz_sd B n k S 6 x = S 6 x ∧ pz_sd B n k S 7 x = S 7 x ∧ pz_sd B n k S 8 x = S 8 x := by
  intro n
  induction n with
  | zero => intro k S x _ _ _; exact ⟨rfl, rfl, rfl⟩
  | succ n ih =>
    intro k S x h1 h2 h3
    have i1 := ih (k + 1) (pz_cp S (12 * B + k + 1) (12 * B + k)) x (by omega) (by omega) h3
    exact ⟨i1.1.trans (by rw [pz_cp_6, if_neg (by omega)]), i1.2.1.trans (by rw [pz_cp_7, if_neg (by omega)]), i1.2.2.trans (by rw [pz_cp_8, if_neg (by omega)])⟩
theorem pz_put_t {B f v w : Int} {t : Nat} (h5 : t ≠ 5) (h6 : t ≠ 6) (h7 : t ≠ 7) (h8 : t ≠ 8) : pz_put S B f v w t = S t := by
  unfold pz_put
  split
  · exact pz_lay_t h6 h7 h8
  · rw [pz_lay_t h6 h7 h8, pz_su_t h5, pz_sh_t h6 h7 h8]
theorem pz_put_5 {B f v w x : Int} (h : x ≠ B) : pz_put S B f v w 5 x = S 5 x := by
  unfold pz_put
  split
  · rw [pz_lay_t (by decide) (by decide) (by decide)]
  · rw [pz_lay_t (by decide) (by decide) (by decide), pz_su_i, if_neg h, pz_sh_t (by decide) (by decide) (by decide)]
theorem pz_put_o (hW : pz_W S) {B f v w x : Int} (hr : S 5 B < 12 ∨ pz_iK S B f) (h : x < 12 * B ∨ 12 * B + 12 ≤ x) : pz_put S B f v w 6 x = S 6 x ∧ pz_put S B f v w 7 x = S 7 x ∧ pz_put S B f v w 8 x = S 8 x := by
  have wk := pz_kA_r hW B f
  have w5 := pw_5 hW B
  unfold pz_put
  by_cases hk : pz_iK S B f
  · have hk1 := hk.1
    rw [if_pos hk, pz_lay_6, pz_lay_7, pz_lay_8, if_neg (by omega), if_neg (by omega), if_neg (by omega)]
    exact ⟨rfl, rfl, rfl⟩
  · have h12 : S 5 B < 12 := hr.elim id (fun g => absurd g hk)
    have k := pz_sh_o (B := B) (pz_kn S B f) (S 5 B) S x h12 (by unfold pz_kn; omega) h
    rw [if_neg hk, pz_lay_6, pz_lay_7, pz_lay_8, if_neg (by omega), if_neg (by omega), if_neg (by omega), pz_su_t (by decide), pz_su_t (by decide), pz_su_t (by decide)]
    exact k
set_option maxRecDepth 20000 in
set_option maxHeartbeats 4000000 in
theorem fc_key1 {a b f v w : Int} (hW : pz_W S) (h : rz_R σ S ad Fo) (ha1 : -2147483648 ≤ a) (ha2 : a ≤ 2147483647) (hb1 : -2147483648 ≤ b) (hb2 : b ≤ 2147483647) (hf1 : -2147483648 ≤ f) (hf2 : f ≤ 2147483647) (hv1 : -2147483648 ≤ v) (hv2 : v ≤ 2147483647) (hw1 : -2147483648 ≤ w) (hw2 : w ≤ 2147483647) (c : ¬ pz_isB S a (-1) b) : ∀ (d : Nat) (Q : mb_O → mb_S → Prop), 9 ≤ d → mb_Ex d 43 [.ref (ad 0 0), .int (iI a), .int (iI b), .int (iI f), .int (iI v), .int (iI w)] σ Q = Q (.inr 2) (mb_th σ) := by
  have hdc : ∀ (d : Nat) (Q : mb_O → mb_S → Prop), 2 ≤ d → mb_Ex d 65 [.ref (ad 0 0), .int (iI a), .int (iI b)] σ Q = Q (.inl (some (.null))) σ := fun d Q hd => (pc_draftCurve hW hd (rz_C hW h) ha1 ha2 hb1 hb2).trans (if_neg c)
  have e0 := rz_geq h (t := 0) (i := 0) rfl (fun _ k => k)
  intro d Q hd
  show mb_Rn d 43 0 [some (.ref (ad 0 0)), some (.int (iI a)), some (.int (iI b)), some (.int (iI f)), some (.int (iI v)), some (.int (iI w)), none] [] σ Q = _
  repeat' (first | (simp (config := {maxSteps := 1000000}) (disch := first | assumption | omega | exact Nat.le_of_ble_eq_true rfl | (intro _; first | rfl | simp (disch := decide) only [pz_su_t])) only [sX7_key_0, sX7_key_0n, sX7_key_1, sX7_key_2, sX7_key_3, sX7_key_6, sX7_key_6n, sX7_key_8, sX7_key_8n, sX7_key_10, sX7_key_10n, sX7_key_13, sX7_key_23, sX7_key_24, sX7_key_30, sX7_key_32, sX7_key_38, sX7_key_40, sX7_key_46, sX7_key_51, sX7_key_53, sX7_key_57, sX7_key_67, sX7_key_67n, sX7_key_69, sX7_key_70, sX7_key_76, sX7_key_86, sX7_key_86n, sX7_key_88, sX7_key_89, sX7_key_91, sX7_key_93, sX7_key_96, sX7_key_96n, sX7_key_98, sX7_key_101, pz_add, pz_mul, pz_neg, pz_sub, pz_lt, pz_le, pz_eq, pz_b0, pz_b1, pz_bb, pz_ix, Int.sub_zero, Int.zero_add, Int.add_zero, Int.mul_zero, mb_qk, mb_qx, if_true, if_false, true_or, or_true, false_or, or_false, and_true, true_and, and_false, false_and, not_true_eq_false, not_false_eq_true, ite_self, List.lookup, List.length_cons, List.length_nil, ite_not, Nat.reduceAdd, Int.reduceEq, Int.reduceLT, Int.reduceLE, pz_n0, pz_n1, pz_n2, pz_n3, pz_n4, pz_n5, pz_n6, pz_n7, pz_n8, pz_n10, pz_n12, pz_n39, pz_n40, pz_n80, pz_n99, pz_n100, pz_n999, pz_nm1, pz_nm999, hdc, pz_gf e0]) | (simp (disch := first | assumption | omega | exact Nat.le_of_ble_eq_true rfl | (intro _; first | rfl | simp (disch := decide) only [pz_su_t])) only [sX7_key_27, sX7_key_35, sX7_key_43, sX7_key_48, sX7_key_54, sX7_key_73, pz_add, pz_mul, pz_neg, pz_sub, pz_lt, pz_le, pz_eq, pz_b0, pz_b1, pz_bb, pz_ix, Int.sub_zero, Int.zero_add, Int.add_zero, Int.mul_zero, mb_qk, mb_qx, if_true, if_false, true_or, or_true, false_or, or_false, and_true, true_and, and_false, false_and, not_true_eq_false, not_false_eq_true, ite_self, List.lookup, List.length_cons, List.length_nil, ite_not, Nat.reduceAdd, Int.reduceEq, Int.reduceLT, Int.reduceLE, pz_n0, pz_n1, pz_n2, pz_n3, pz_n4, pz_n5, pz_n6, pz_n7, pz_n8, pz_n10, pz_n12, pz_n39, pz_n40, pz_n80, pz_n99, pz_n100, pz_n999, pz_nm1, pz_nm999]; first | split | skip) | split)
  all_goals first | rfl | omega | ((try unfold pz_b); (repeat' split) <;> first | rfl | omega | (simp_all only []; done) | (exfalso; simp_all only [not_true_eq_false, not_false_eq_true]; omega) | skip)
set_option maxRecDepth 20000 in
set_option maxHeartbeats 4000000 in
theorem fc_key2 {a b f v w : Int} (hW : pz_W S) (h : rz_R σ S ad Fo) (ha1 : -2147483648 ≤ a) (ha2 : a ≤ 2147483647) (hb1 : -2147483648 ≤ b) (hb2 : b ≤ 2147483647) (hf1 : -2147483648 ≤ f) (hf2 : f ≤ 2147483647) (hv1 : -2147483648 ≤ v) (hv2 : v ≤ 2147483647) (hw1 : -2147483648 ≤ w) (hw2 : w ≤ 2147483647) (c : pz_isB S a (-1) b) (c2 : ¬ pz_are f v w) : ∀ (d : Nat) (Q : mb_O → mb_S → Prop), 9 ≤ d → mb_Ex d 43 [.ref (ad 0 0), .int (iI a), .int (iI b), .int (iI f), .int (iI v), .int (iI w)] σ Q = Q (.inr 1) (mb_th σ) := by
  have hdc : ∀ (d : Nat) (Q : mb_O → mb_S → Prop), 2 ≤ d → mb_Ex d 65 [.ref (ad 0 0), .int (iI a), .int (iI b)] σ Q = Q (.inl (some (.ref (ad 10 (10 * a + b))))) σ := fun d Q hd => (pc_draftCurve hW hd (rz_C hW h) ha1 ha2 hb1 hb2).trans (if_pos c)
  have e0 := rz_geq h (t := 0) (i := 0) rfl (fun _ k => k)
  have hl := (rz_lB hW c).1
  have hC := rz_Cv h hl
  have ec := hC.1
  intro d Q hd
  show mb_Rn d 43 0 [some (.ref (ad 0 0)), some (.int (iI a)), some (.int (iI b)), some (.int (iI f)), some (.int (iI v)), some (.int (iI w)), none] [] σ Q = _
  by_cases c3 : 0 ≤ f ∧ f ≤ 99
  · repeat' (first | (simp (config := {maxSteps := 1000000}) (disch := first | assumption | omega | exact Nat.le_of_ble_eq_true rfl | (intro _; first | rfl | simp (disch := decide) only [pz_su_t])) only [sX7_key_0, sX7_key_0n, sX7_key_1, sX7_key_2, sX7_key_3, sX7_key_6, sX7_key_6n, sX7_key_8, sX7_key_8n, sX7_key_10, sX7_key_10n, sX7_key_13, sX7_key_23, sX7_key_24, sX7_key_30, sX7_key_32, sX7_key_38, sX7_key_40, sX7_key_46, sX7_key_51, sX7_key_53, sX7_key_57, sX7_key_67, sX7_key_67n, sX7_key_69, sX7_key_70, sX7_key_76, sX7_key_86, sX7_key_86n, sX7_key_88, sX7_key_89, sX7_key_91, sX7_key_93, sX7_key_96, sX7_key_96n, sX7_key_98, sX7_key_101, pz_add, pz_mul, pz_neg, pz_sub, pz_lt, pz_le, pz_eq, pz_b0, pz_b1, pz_bb, pz_ix, Int.sub_zero, Int.zero_add, Int.add_zero, Int.mul_zero, mb_qk, mb_qx, if_true, if_false, true_or, or_true, false_or, or_false, and_true, true_and, and_false, false_and, not_true_eq_false, not_false_eq_true, ite_self, List.lookup, List.length_cons, List.length_nil, ite_not, Nat.reduceAdd, Int.reduceEq, Int.reduceLT, Int.reduceLE, pz_n0, pz_n1, pz_n2, pz_n3, pz_n4, pz_n5, pz_n6, pz_n7, pz_n8, pz_n10, pz_n12, pz_n39, pz_n40, pz_n80, pz_n99, pz_n100, pz_n999, pz_nm1, pz_nm999, hdc, pz_gf e0, pc_isCurveFrame, pz_bt c3]) | (simp (disch := first | assumption | omega | exact Nat.le_of_ble_eq_true rfl | (intro _; first | rfl | simp (disch := decide) only [pz_su_t])) only [sX7_key_27, sX7_key_35, sX7_key_43, sX7_key_48, sX7_key_54, sX7_key_73, pz_add, pz_mul, pz_neg, pz_sub, pz_lt, pz_le, pz_eq, pz_b0, pz_b1, pz_bb, pz_ix, Int.sub_zero, Int.zero_add, Int.add_zero, Int.mul_zero, mb_qk, mb_qx, if_true, if_false, true_or, or_true, false_or, or_false, and_true, true_and, and_false, false_and, not_true_eq_false, not_false_eq_true, ite_self, List.lookup, List.length_cons, List.length_nil, ite_not, Nat.reduceAdd, Int.reduceEq, Int.reduceLT, Int.reduceLE, pz_n0, pz_n1, pz_n2, pz_n3, pz_n4, pz_n5, pz_n6, pz_n7, pz_n8, pz_n10, pz_n12, pz_n39, pz_n40, pz_n80, pz_n99, pz_n100, pz_n999, pz_nm1, pz_nm999]; first | split | skip) | split)
    all_goals first | rfl | omega | ((try unfold pz_b); (repeat' split) <;> first | rfl | omega | (simp_all only []; done) | (exfalso; simp_all only [not_true_eq_false, not_false_eq_true]; omega) | skip)
  · repeat' (first | (simp (config := {maxSteps := 1000000}) (disch := first | assumption | omega | exact Nat.le_of_ble_eq_true rfl | (intro _; first | rfl | simp (disch := decide) only [pz_su_t])) only [sX7_key_0, sX7_key_0n, sX7_key_1, sX7_key_2, sX7_key_3, sX7_key_6, sX7_key_6n, sX7_key_8, sX7_key_8n, sX7_key_10, sX7_key_10n, sX7_key_13, sX7_key_23, sX7_key_24, sX7_key_30, sX7_key_32, sX7_key_38, sX7_key_40, sX7_key_46, sX7_key_51, sX7_key_53, sX7_key_57, sX7_key_67, sX7_key_67n, sX7_key_69, sX7_key_70, sX7_key_76, sX7_key_86, sX7_key_86n, sX7_key_88, sX7_key_89, sX7_key_91, sX7_key_93, sX7_key_96, sX7_key_96n, sX7_key_98, sX7_key_101, pz_add, pz_mul, pz_neg, pz_sub, pz_lt, pz_le, pz_eq, pz_b0, pz_b1, pz_bb, pz_ix, Int.sub_zero, Int.zero_add, Int.add_zero, Int.mul_zero, mb_qk, mb_qx, if_true, if_false, true_or, or_true, false_or, or_false, and_true, true_and, and_false, false_and, not_true_eq_false, not_false_eq_true, ite_self, List.lookup, List.length_cons, List.length_nil, ite_not, Nat.reduceAdd, Int.reduceEq, Int.reduceLT, Int.reduceLE, pz_n0, pz_n1, pz_n2, pz_n3, pz_n4, pz_n5, pz_n6, pz_n7, pz_n8, pz_n10, pz_n12, pz_n39, pz_n40, pz_n80, pz_n99, pz_n100, pz_n999, pz_nm1, pz_nm999, hdc, pz_gf e0, pc_isCurveFrame, pz_bf c3]) | (simp (disch := first | assumption | omega | exact Nat.le_of_ble_eq_true rfl | (intro _; first | rfl | simp (disch := decide) only [pz_su_t])) only [sX7_key_27, sX7_key_35, sX7_key_43, sX7_key_48, sX7_key_54, sX7_key_73, pz_add, pz_mul, pz_neg, pz_sub, pz_lt, pz_le, pz_eq, pz_b0, pz_b1, pz_bb, pz_ix, Int.sub_zero, Int.zero_add, Int.add_zero, Int.mul_zero, mb_qk, mb_qx, if_true, if_false, true_or, or_true, false_or, or_false, and_true, true_and, and_false, false_and, not_true_eq_false, not_false_eq_true, ite_self, List.lookup, List.length_cons, List.length_nil, ite_not, Nat.reduceAdd, Int.reduceEq, Int.reduceLT, Int.reduceLE, pz_n0, pz_n1, pz_n2, pz_n3, pz_n4, pz_n5, pz_n6, pz_n7, pz_n8, pz_n10, pz_n12, pz_n39, pz_n40, pz_n80, pz_n99, pz_n100, pz_n999, pz_nm1, pz_nm999]; first | split | skip) | split)
    all_goals first | rfl | omega | ((try unfold pz_b); (repeat' split) <;> first | rfl | omega | (simp_all only []; done) | (exfalso; simp_all only [not_true_eq_false, not_false_eq_true]; omega) | skip)
set_option maxRecDepth 20000 in
set_option maxHeartbeats 4000000 in
theorem fc_key3 {a b f v w : Int} (hW : pz_W S) (h : rz_R σ S ad Fo) (ha1 : -2147483648 ≤ a) (ha2 : a ≤ 2147483647) (hb1 : -2147483648 ≤ b) (hb2 : b ≤ 2147483647) (hf1 : -2147483648 ≤ f) (hf2 : f ≤ 2147483647) (hv1 : -2147483648 ≤ v) (hv2 : v ≤ 2147483647) (hw1 : -2147483648 ≤ w) (hw2 : w ≤ 2147483647) (c : pz_isB S a (-1) b) (c2 : pz_are f v w) (c3 : S 5 (10 * a + b) = 12 ∧ ¬ pz_iK S (10 * a + b) f) : ∀ (d : Nat) (Q : mb_O → mb_S → Prop), 9 ≤ d → mb_Ex d 43 [.ref (ad 0 0), .int (iI a), .int (iI b), .int (iI f), .int (iI v), .int (iI w)] σ Q = Q (.inr 0) (mb_th σ) := by
  have hdc : ∀ (d : Nat) (Q : mb_O → mb_S → Prop), 2 ≤ d → mb_Ex d 65 [.ref (ad 0 0), .int (iI a), .int (iI b)] σ Q = Q (.inl (some (.ref (ad 10 (10 * a + b))))) σ := fun d Q hd => (pc_draftCurve hW hd (rz_C hW h) ha1 ha2 hb1 hb2).trans (if_pos c)
  have e0 := rz_geq h (t := 0) (i := 0) rfl (fun _ k => k)
  have hl := (rz_lB hW c).1
  have hC := rz_Cv h hl
  have ec := hC.1
  obtain ⟨c4, ⟨v1, v2⟩, w1, w2⟩ := c2
  have hr : ¬ (S 5 (10 * a + b) < 12 ∨ pz_iK S (10 * a + b) f) := fun g => g.elim (fun g => by omega) c3.2
  intro d Q hd
  show mb_Rn d 43 0 [some (.ref (ad 0 0)), some (.int (iI a)), some (.int (iI b)), some (.int (iI f)), some (.int (iI v)), some (.int (iI w)), none] [] σ Q = _
  repeat' (first | (simp (config := {maxSteps := 1000000}) (disch := first | assumption | omega | exact Nat.le_of_ble_eq_true rfl | (intro _; first | rfl | simp (disch := decide) only [pz_su_t])) only [sX7_key_0, sX7_key_0n, sX7_key_1, sX7_key_2, sX7_key_3, sX7_key_6, sX7_key_6n, sX7_key_8, sX7_key_8n, sX7_key_10, sX7_key_10n, sX7_key_13, sX7_key_23, sX7_key_24, sX7_key_30, sX7_key_32, sX7_key_38, sX7_key_40, sX7_key_46, sX7_key_51, sX7_key_53, sX7_key_57, sX7_key_67, sX7_key_67n, sX7_key_69, sX7_key_70, sX7_key_76, sX7_key_86, sX7_key_86n, sX7_key_88, sX7_key_89, sX7_key_91, sX7_key_93, sX7_key_96, sX7_key_96n, sX7_key_98, sX7_key_101, pz_add, pz_mul, pz_neg, pz_sub, pz_lt, pz_le, pz_eq, pz_b0, pz_b1, pz_bb, pz_ix, Int.sub_zero, Int.zero_add, Int.add_zero, Int.mul_zero, mb_qk, mb_qx, if_true, if_false, true_or, or_true, false_or, or_false, and_true, true_and, and_false, false_and, not_true_eq_false, not_false_eq_true, ite_self, List.lookup, List.length_cons, List.length_nil, ite_not, Nat.reduceAdd, Int.reduceEq, Int.reduceLT, Int.reduceLE, pz_n0, pz_n1, pz_n2, pz_n3, pz_n4, pz_n5, pz_n6, pz_n7, pz_n8, pz_n10, pz_n12, pz_n39, pz_n40, pz_n80, pz_n99, pz_n100, pz_n999, pz_nm1, pz_nm999, hdc, pz_gf e0, pc_isCurveFrame, pz_bt c4, pz_gf ec, pc_hasRoomFor hW (hC := hC), pz_bf hr]) | (simp (disch := first | assumption | omega | exact Nat.le_of_ble_eq_true rfl | (intro _; first | rfl | simp (disch := decide) only [pz_su_t])) only [sX7_key_27, sX7_key_35, sX7_key_43, sX7_key_48, sX7_key_54, sX7_key_73, pz_add, pz_mul, pz_neg, pz_sub, pz_lt, pz_le, pz_eq, pz_b0, pz_b1, pz_bb, pz_ix, Int.sub_zero, Int.zero_add, Int.add_zero, Int.mul_zero, mb_qk, mb_qx, if_true, if_false, true_or, or_true, false_or, or_false, and_true, true_and, and_false, false_and, not_true_eq_false, not_false_eq_true, ite_self, List.lookup, List.length_cons, List.length_nil, ite_not, Nat.reduceAdd, Int.reduceEq, Int.reduceLT, Int.reduceLE, pz_n0, pz_n1, pz_n2, pz_n3, pz_n4, pz_n5, pz_n6, pz_n7, pz_n8, pz_n10, pz_n12, pz_n39, pz_n40, pz_n80, pz_n99, pz_n100, pz_n999, pz_nm1, pz_nm999]; first | split | skip) | split)
  all_goals first | rfl | omega | ((try unfold pz_b); (repeat' split) <;> first | rfl | omega | (simp_all only []; done) | (exfalso; simp_all only [not_true_eq_false, not_false_eq_true]; omega) | skip)
set_option maxRecDepth 20000 in
set_option maxHeartbeats 4000000 in
theorem fc_key {a b f v w : Int} (hW : pz_W S) (h : rz_R σ S ad Fo) (ha1 : -2147483648 ≤ a) (ha2 : a ≤ 2147483647) (hb1 : -2147483648 ≤ b) (hb2 : b ≤ 2147483647) (hf1 : -2147483648 ≤ f) (hf2 : f ≤ 2147483647) (hv1 : -2147483648 ≤ v) (hv2 : v ≤ 2147483647) (hw1 : -2147483648 ≤ w) (hw2 : w ≤ 2147483647) (c : pz_isB S a (-1) b) (c2 : pz_are f v w) (c3 : ¬ (S 5 (10 * a + b) = 12 ∧ ¬ pz_iK S (10 * a + b) f)) : ∃ σ', rz_R σ' (pz_put S (10 * a + b) f v w) ad Fo ∧ rz_F Fo σ σ' ∧ ∀ (d : Nat) (Q : mb_O → mb_S → Prop), 9 ≤ d → mb_Ex d 43 [.ref (ad 0 0), .int (iI a), .int (iI b), .int (iI f), .int (iI v), .int (iI w)] σ Q = Q (.inl (some (.int (iI (if pz_iK S (10 * a + b) f then S 5 (10 * a + b) else S 5 (10 * a + b) + 1))))) σ' := by
  have hdc : ∀ (d : Nat) (Q : mb_O → mb_S → Prop), 2 ≤ d → mb_Ex d 65 [.ref (ad 0 0), .int (iI a), .int (iI b)] σ Q = Q (.inl (some (.ref (ad 10 (10 * a + b))))) σ := fun d Q hd => (pc_draftCurve hW hd (rz_C hW h) ha1 ha2 hb1 hb2).trans (if_pos c)
  have e0 := rz_geq h (t := 0) (i := 0) rfl (fun _ k => k)
  have hl := (rz_lB hW c).1
  have hC := rz_Cv h hl
  have ec := hC.1
  obtain ⟨c4, ⟨v1, v2⟩, w1, w2⟩ := c2
  have w5 := pw_5 hW (10 * a + b)
  have hr : S 5 (10 * a + b) < 12 ∨ pz_iK S (10 * a + b) f := by
    by_cases g : pz_iK S (10 * a + b) f
    · exact Or.inr g
    · exact Or.inl (by have : ¬ S 5 (10 * a + b) = 12 := fun k => c3 ⟨k, g⟩; omega)
  obtain ⟨σ1, hC1, hA1, he1⟩ := wc_put hC (rz_D4 h hl) hW (f := f) (v := v) (w := w) c4.1 c4.2 hr
  have ec1 := hC1.1
  have e5 : pz_put S (10 * a + b) f v w 5 (10 * a + b) = if pz_iK S (10 * a + b) f then S 5 (10 * a + b) else S 5 (10 * a + b) + 1 := by
    unfold pz_put
    split
    · rw [pz_lay_t (by decide) (by decide) (by decide)]
    · rw [pz_lay_t (by decide) (by decide) (by decide), pz_su_e]
  rw [e5] at ec1
  refine ⟨σ1, rz_L1 hW h hl (rz_lB hW c).2.1 hC1 hA1 (fun x hx => pz_put_t (fun e => hx (by rw [e]; decide)) (fun e => hx (by rw [e]; decide)) (fun e => hx (by rw [e]; decide)) (fun e => hx (by rw [e]; decide))) (fun x hx => pz_put_5 hx) (fun x hx => pz_put_o hW hr hx), rz_Fag h hl hA1, fun d Q hd => ?_⟩
  show mb_Rn d 43 0 [some (.ref (ad 0 0)), some (.int (iI a)), some (.int (iI b)), some (.int (iI f)), some (.int (iI v)), some (.int (iI w)), none] [] σ Q = _
  repeat' (first | (simp (config := {maxSteps := 1000000}) (disch := first | assumption | omega | exact Nat.le_of_ble_eq_true rfl | (intro _; first | rfl | simp (disch := decide) only [pz_su_t])) only [sX7_key_0, sX7_key_0n, sX7_key_1, sX7_key_2, sX7_key_3, sX7_key_6, sX7_key_6n, sX7_key_8, sX7_key_8n, sX7_key_10, sX7_key_10n, sX7_key_13, sX7_key_23, sX7_key_24, sX7_key_30, sX7_key_32, sX7_key_38, sX7_key_40, sX7_key_46, sX7_key_51, sX7_key_53, sX7_key_57, sX7_key_67, sX7_key_67n, sX7_key_69, sX7_key_70, sX7_key_76, sX7_key_86, sX7_key_86n, sX7_key_88, sX7_key_89, sX7_key_91, sX7_key_93, sX7_key_96, sX7_key_96n, sX7_key_98, sX7_key_101, pz_add, pz_mul, pz_neg, pz_sub, pz_lt, pz_le, pz_eq, pz_b0, pz_b1, pz_bb, pz_ix, Int.sub_zero, Int.zero_add, Int.add_zero, Int.mul_zero, mb_qk, mb_qx, if_true, if_false, true_or, or_true, false_or, or_false, and_true, true_and, and_false, false_and, not_true_eq_false, not_false_eq_true, ite_self, List.lookup, List.length_cons, List.length_nil, ite_not, Nat.reduceAdd, Int.reduceEq, Int.reduceLT, Int.reduceLE, pz_n0, pz_n1, pz_n2, pz_n3, pz_n4, pz_n5, pz_n6, pz_n7, pz_n8, pz_n10, pz_n12, pz_n39, pz_n40, pz_n80, pz_n99, pz_n100, pz_n999, pz_nm1, pz_nm999, hdc, pz_gf e0, pc_isCurveFrame, pz_bt c4, pz_gf ec, pc_hasRoomFor hW (hC := hC), pz_bt hr, he1, pz_gf ec1, List.getD_cons_zero, List.getD_cons_succ]) | (simp (disch := first | assumption | omega | exact Nat.le_of_ble_eq_true rfl | (intro _; first | rfl | simp (disch := decide) only [pz_su_t])) only [sX7_key_27, sX7_key_35, sX7_key_43, sX7_key_48, sX7_key_54, sX7_key_73, pz_add, pz_mul, pz_neg, pz_sub, pz_lt, pz_le, pz_eq, pz_b0, pz_b1, pz_bb, pz_ix, Int.sub_zero, Int.zero_add, Int.add_zero, Int.mul_zero, mb_qk, mb_qx, if_true, if_false, true_or, or_true, false_or, or_false, and_true, true_and, and_false, false_and, not_true_eq_false, not_false_eq_true, ite_self, List.lookup, List.length_cons, List.length_nil, ite_not, Nat.reduceAdd, Int.reduceEq, Int.reduceLT, Int.reduceLE, pz_n0, pz_n1, pz_n2, pz_n3, pz_n4, pz_n5, pz_n6, pz_n7, pz_n8, pz_n10, pz_n12, pz_n39, pz_n40, pz_n80, pz_n99, pz_n100, pz_n999, pz_nm1, pz_nm999]; first | split | skip) | split)
  all_goals first | rfl | omega | ((try unfold pz_b); (repeat' split) <;> first | rfl | omega | (simp_all only []; done) | (exfalso; simp_all only [not_true_eq_false, not_false_eq_true]; omega) | skip)
set_option maxRecDepth 20000 in
set_option maxHeartbeats 4000000 in
theorem fc_unkey1 {a b f : Int} (hW : pz_W S) (h : rz_R σ S ad Fo) (ha1 : -2147483648 ≤ a) (ha2 : a ≤ 2147483647) (hb1 : -2147483648 ≤ b) (hb2 : b ≤ 2147483647) (hf1 : -2147483648 ≤ f) (hf2 : f ≤ 2147483647) (c : ¬ pz_isB S a (-1) b) : ∀ (d : Nat) (Q : mb_O → mb_S → Prop), 9 ≤ d → mb_Ex d 44 [.ref (ad 0 0), .int (iI a), .int (iI b), .int (iI f)] σ Q = Q (.inr 2) (mb_th σ) := by
  have hdc : ∀ (d : Nat) (Q : mb_O → mb_S → Prop), 2 ≤ d → mb_Ex d 65 [.ref (ad 0 0), .int (iI a), .int (iI b)] σ Q = Q (.inl (some (.null))) σ := fun d Q hd => (pc_draftCurve hW hd (rz_C hW h) ha1 ha2 hb1 hb2).trans (if_neg c)
  have e0 := rz_geq h (t := 0) (i := 0) rfl (fun _ k => k)
  intro d Q hd
  show mb_Rn d 44 0 [some (.ref (ad 0 0)), some (.int (iI a)), some (.int (iI b)), some (.int (iI f)), none] [] σ Q = _
  repeat' (first | (simp (config := {maxSteps := 1000000}) (disch := first | assumption | omega | exact Nat.le_of_ble_eq_true rfl | (intro _; first | rfl | simp (disch := decide) only [pz_su_t])) only [sX7_unkey_0, sX7_unkey_0n, sX7_unkey_1, sX7_unkey_2, sX7_unkey_3, sX7_unkey_6, sX7_unkey_6n, sX7_unkey_8, sX7_unkey_8n, sX7_unkey_10, sX7_unkey_10n, sX7_unkey_13, sX7_unkey_23, sX7_unkey_24, sX7_unkey_30, sX7_unkey_40, sX7_unkey_40n, sX7_unkey_42, sX7_unkey_43, sX7_unkey_46, pz_add, pz_mul, pz_neg, pz_sub, pz_lt, pz_le, pz_eq, pz_b0, pz_b1, pz_bb, pz_ix, Int.sub_zero, Int.zero_add, Int.add_zero, Int.mul_zero, mb_qk, mb_qx, if_true, if_false, true_or, or_true, false_or, or_false, and_true, true_and, and_false, false_and, not_true_eq_false, not_false_eq_true, ite_self, List.lookup, List.length_cons, List.length_nil, ite_not, Nat.reduceAdd, Int.reduceEq, Int.reduceLT, Int.reduceLE, pz_n0, pz_n1, pz_n2, pz_n3, pz_n4, pz_n5, pz_n6, pz_n7, pz_n8, pz_n10, pz_n12, pz_n39, pz_n40, pz_n80, pz_n99, pz_n100, pz_n999, pz_nm1, pz_nm999, hdc, pz_gf e0]) | (simp (disch := first | assumption | omega | exact Nat.le_of_ble_eq_true rfl | (intro _; first | rfl | simp (disch := decide) only [pz_su_t])) only [sX7_unkey_27, pz_add, pz_mul, pz_neg, pz_sub, pz_lt, pz_le, pz_eq, pz_b0, pz_b1, pz_bb, pz_ix, Int.sub_zero, Int.zero_add, Int.add_zero, Int.mul_zero, mb_qk, mb_qx, if_true, if_false, true_or, or_true, false_or, or_false, and_true, true_and, and_false, false_and, not_true_eq_false, not_false_eq_true, ite_self, List.lookup, List.length_cons, List.length_nil, ite_not, Nat.reduceAdd, Int.reduceEq, Int.reduceLT, Int.reduceLE, pz_n0, pz_n1, pz_n2, pz_n3, pz_n4, pz_n5, pz_n6, pz_n7, pz_n8, pz_n10, pz_n12, pz_n39, pz_n40, pz_n80, pz_n99, pz_n100, pz_n999, pz_nm1, pz_nm999]; first | split | skip) | split)
  all_goals first | rfl | omega | ((try unfold pz_b); (repeat' split) <;> first | rfl | omega | (simp_all only []; done) | (exfalso; simp_all only [not_true_eq_false, not_false_eq_true]; omega) | skip)
set_option maxRecDepth 20000 in
set_option maxHeartbeats 4000000 in
theorem fc_unkey2 {a b f : Int} (hW : pz_W S) (h : rz_R σ S ad Fo) (ha1 : -2147483648 ≤ a) (ha2 : a ≤ 2147483647) (hb1 : -2147483648 ≤ b) (hb2 : b ≤ 2147483647) (hf1 : -2147483648 ≤ f) (hf2 : f ≤ 2147483647) (c : pz_isB S a (-1) b) (c2 : ¬ (0 ≤ f ∧ f ≤ 99)) : ∀ (d : Nat) (Q : mb_O → mb_S → Prop), 9 ≤ d → mb_Ex d 44 [.ref (ad 0 0), .int (iI a), .int (iI b), .int (iI f)] σ Q = Q (.inr 1) (mb_th σ) := by
  have hdc : ∀ (d : Nat) (Q : mb_O → mb_S → Prop), 2 ≤ d → mb_Ex d 65 [.ref (ad 0 0), .int (iI a), .int (iI b)] σ Q = Q (.inl (some (.ref (ad 10 (10 * a + b))))) σ := fun d Q hd => (pc_draftCurve hW hd (rz_C hW h) ha1 ha2 hb1 hb2).trans (if_pos c)
  have e0 := rz_geq h (t := 0) (i := 0) rfl (fun _ k => k)
  intro d Q hd
  show mb_Rn d 44 0 [some (.ref (ad 0 0)), some (.int (iI a)), some (.int (iI b)), some (.int (iI f)), none] [] σ Q = _
  repeat' (first | (simp (config := {maxSteps := 1000000}) (disch := first | assumption | omega | exact Nat.le_of_ble_eq_true rfl | (intro _; first | rfl | simp (disch := decide) only [pz_su_t])) only [sX7_unkey_0, sX7_unkey_0n, sX7_unkey_1, sX7_unkey_2, sX7_unkey_3, sX7_unkey_6, sX7_unkey_6n, sX7_unkey_8, sX7_unkey_8n, sX7_unkey_10, sX7_unkey_10n, sX7_unkey_13, sX7_unkey_23, sX7_unkey_24, sX7_unkey_30, sX7_unkey_40, sX7_unkey_40n, sX7_unkey_42, sX7_unkey_43, sX7_unkey_46, pz_add, pz_mul, pz_neg, pz_sub, pz_lt, pz_le, pz_eq, pz_b0, pz_b1, pz_bb, pz_ix, Int.sub_zero, Int.zero_add, Int.add_zero, Int.mul_zero, mb_qk, mb_qx, if_true, if_false, true_or, or_true, false_or, or_false, and_true, true_and, and_false, false_and, not_true_eq_false, not_false_eq_true, ite_self, List.lookup, List.length_cons, List.length_nil, ite_not, Nat.reduceAdd, Int.reduceEq, Int.reduceLT, Int.reduceLE, pz_n0, pz_n1, pz_n2, pz_n3, pz_n4, pz_n5, pz_n6, pz_n7, pz_n8, pz_n10, pz_n12, pz_n39, pz_n40, pz_n80, pz_n99, pz_n100, pz_n999, pz_nm1, pz_nm999, hdc, pz_gf e0, pc_isCurveFrame, pz_bf c2]) | (simp (disch := first | assumption | omega | exact Nat.le_of_ble_eq_true rfl | (intro _; first | rfl | simp (disch := decide) only [pz_su_t])) only [sX7_unkey_27, pz_add, pz_mul, pz_neg, pz_sub, pz_lt, pz_le, pz_eq, pz_b0, pz_b1, pz_bb, pz_ix, Int.sub_zero, Int.zero_add, Int.add_zero, Int.mul_zero, mb_qk, mb_qx, if_true, if_false, true_or, or_true, false_or, or_false, and_true, true_and, and_false, false_and, not_true_eq_false, not_false_eq_true, ite_self, List.lookup, List.length_cons, List.length_nil, ite_not, Nat.reduceAdd, Int.reduceEq, Int.reduceLT, Int.reduceLE, pz_n0, pz_n1, pz_n2, pz_n3, pz_n4, pz_n5, pz_n6, pz_n7, pz_n8, pz_n10, pz_n12, pz_n39, pz_n40, pz_n80, pz_n99, pz_n100, pz_n999, pz_nm1, pz_nm999]; first | split | skip) | split)
  all_goals first | rfl | omega | ((try unfold pz_b); (repeat' split) <;> first | rfl | omega | (simp_all only []; done) | (exfalso; simp_all only [not_true_eq_false, not_false_eq_true]; omega) | skip)
set_option maxRecDepth 20000 in
set_option maxHeartbeats 4000000 in
theorem fc_unkey3 {a b f : Int} (hW : pz_W S) (h : rz_R σ S ad Fo) (ha1 : -2147483648 ≤ a) (ha2 : a ≤ 2147483647) (hb1 : -2147483648 ≤ b) (hb2 : b ≤ 2147483647) (hf1 : -2147483648 ≤ f) (hf2 : f ≤ 2147483647) (c : pz_isB S a (-1) b) (c2 : 0 ≤ f ∧ f ≤ 99) (c3 : ¬ pz_iK S (10 * a + b) f) : ∀ (d : Nat) (Q : mb_O → mb_S → Prop), 9 ≤ d → mb_Ex d 44 [.ref (ad 0 0), .int (iI a), .int (iI b), .int (iI f)] σ Q = Q (.inl (some (.int (iI (0))))) σ := by
  have hdc : ∀ (d : Nat) (Q : mb_O → mb_S → Prop), 2 ≤ d → mb_Ex d 65 [.ref (ad 0 0), .int (iI a), .int (iI b)] σ Q = Q (.inl (some (.ref (ad 10 (10 * a + b))))) σ := fun d Q hd => (pc_draftCurve hW hd (rz_C hW h) ha1 ha2 hb1 hb2).trans (if_pos c)
  have e0 := rz_geq h (t := 0) (i := 0) rfl (fun _ k => k)
  have hl := (rz_lB hW c).1
  have hC := rz_Cv h hl
  have ec := hC.1
  intro d Q hd
  show mb_Rn d 44 0 [some (.ref (ad 0 0)), some (.int (iI a)), some (.int (iI b)), some (.int (iI f)), none] [] σ Q = _
  repeat' (first | (simp (config := {maxSteps := 1000000}) (disch := first | assumption | omega | exact Nat.le_of_ble_eq_true rfl | (intro _; first | rfl | simp (disch := decide) only [pz_su_t])) only [sX7_unkey_0, sX7_unkey_0n, sX7_unkey_1, sX7_unkey_2, sX7_unkey_3, sX7_unkey_6, sX7_unkey_6n, sX7_unkey_8, sX7_unkey_8n, sX7_unkey_10, sX7_unkey_10n, sX7_unkey_13, sX7_unkey_23, sX7_unkey_24, sX7_unkey_30, sX7_unkey_40, sX7_unkey_40n, sX7_unkey_42, sX7_unkey_43, sX7_unkey_46, pz_add, pz_mul, pz_neg, pz_sub, pz_lt, pz_le, pz_eq, pz_b0, pz_b1, pz_bb, pz_ix, Int.sub_zero, Int.zero_add, Int.add_zero, Int.mul_zero, mb_qk, mb_qx, if_true, if_false, true_or, or_true, false_or, or_false, and_true, true_and, and_false, false_and, not_true_eq_false, not_false_eq_true, ite_self, List.lookup, List.length_cons, List.length_nil, ite_not, Nat.reduceAdd, Int.reduceEq, Int.reduceLT, Int.reduceLE, pz_n0, pz_n1, pz_n2, pz_n3, pz_n4, pz_n5, pz_n6, pz_n7, pz_n8, pz_n10, pz_n12, pz_n39, pz_n40, pz_n80, pz_n99, pz_n100, pz_n999, pz_nm1, pz_nm999, hdc, pz_gf e0, pc_isCurveFrame, pz_bt c2, pz_gf ec, wc_take0 hC (rz_D4 h hl) hW c2.1 c2.2 c3]) | (simp (disch := first | assumption | omega | exact Nat.le_of_ble_eq_true rfl | (intro _; first | rfl | simp (disch := decide) only [pz_su_t])) only [sX7_unkey_27, pz_add, pz_mul, pz_neg, pz_sub, pz_lt, pz_le, pz_eq, pz_b0, pz_b1, pz_bb, pz_ix, Int.sub_zero, Int.zero_add, Int.add_zero, Int.mul_zero, mb_qk, mb_qx, if_true, if_false, true_or, or_true, false_or, or_false, and_true, true_and, and_false, false_and, not_true_eq_false, not_false_eq_true, ite_self, List.lookup, List.length_cons, List.length_nil, ite_not, Nat.reduceAdd, Int.reduceEq, Int.reduceLT, Int.reduceLE, pz_n0, pz_n1, pz_n2, pz_n3, pz_n4, pz_n5, pz_n6, pz_n7, pz_n8, pz_n10, pz_n12, pz_n39, pz_n40, pz_n80, pz_n99, pz_n100, pz_n999, pz_nm1, pz_nm999]; first | split | skip) | split)
  all_goals first | rfl | omega | ((try unfold pz_b); (repeat' split) <;> first | rfl | omega | (simp_all only []; done) | (exfalso; simp_all only [not_true_eq_false, not_false_eq_true]; omega) | skip)
set_option maxRecDepth 20000 in
set_option maxHeartbeats 4000000 in
theorem fc_unkey {a b f : Int} (hW : pz_W S) (h : rz_R σ S ad Fo) (ha1 : -2147483648 ≤ a) (ha2 : a ≤ 2147483647) (hb1 : -2147483648 ≤ b) (hb2 : b ≤ 2147483647) (hf1 : -2147483648 ≤ f) (hf2 : f ≤ 2147483647) (c : pz_isB S a (-1) b) (c2 : 0 ≤ f ∧ f ≤ 99) (c3 : pz_iK S (10 * a + b) f) : ∃ σ', rz_R σ' (pz_sd (10 * a + b) (S 5 (10 * a + b) - 1 - pz_kA S (10 * a + b) f).toNat (pz_kA S (10 * a + b) f) (pz_su S 5 (10 * a + b) (S 5 (10 * a + b) - 1))) ad Fo ∧ rz_F Fo σ σ' ∧ ∀ (d : Nat) (Q : mb_O → mb_S → Prop), 9 ≤ d → mb_Ex d 44 [.ref (ad 0 0), .int (iI a), .int (iI b), .int (iI f)] σ Q = Q (.inl (some (.int (iI (1))))) σ' := by
  have hdc : ∀ (d : Nat) (Q : mb_O → mb_S → Prop), 2 ≤ d → mb_Ex d 65 [.ref (ad 0 0), .int (iI a), .int (iI b)] σ Q = Q (.inl (some (.ref (ad 10 (10 * a + b))))) σ := fun d Q hd => (pc_draftCurve hW hd (rz_C hW h) ha1 ha2 hb1 hb2).trans (if_pos c)
  have e0 := rz_geq h (t := 0) (i := 0) rfl (fun _ k => k)
  have hl := (rz_lB hW c).1
  have hC := rz_Cv h hl
  have ec := hC.1
  have w5 := pw_5 hW (10 * a + b)
  have wk := pz_kA_r hW (10 * a + b) f
  have hk1 := c3.1
  obtain ⟨σ1, hC1, hA1, he1⟩ := wc_take hC (rz_D4 h hl) hW c2.1 c2.2 c3
  refine ⟨σ1, rz_L1 hW h hl (rz_lB hW c).2.1 hC1 hA1 (fun x hx => (pz_sd_t (fun e => hx (by rw [e]; decide)) (fun e => hx (by rw [e]; decide)) (fun e => hx (by rw [e]; decide)) _ _ _).trans (pz_su_t (fun e => hx (by rw [e]; decide)))) (fun x hx => by rw [pz_sd_t (by decide) (by decide) (by decide), pz_su_i, if_neg hx]) (fun x hx => ?_), rz_Fag h hl hA1, fun d Q hd => ?_⟩
  · have k := pz_sd_o (B := 10 * a + b) (S 5 (10 * a + b) - 1 - pz_kA S (10 * a + b) f).toNat (pz_kA S (10 * a + b) f) (pz_su S 5 (10 * a + b) (S 5 (10 * a + b) - 1)) x wk.1 (by omega) hx
    rw [k.1, k.2.1, k.2.2]
    exact ⟨by rw [pz_su_t (by decide)], by rw [pz_su_t (by decide)], by rw [pz_su_t (by decide)]⟩
  show mb_Rn d 44 0 [some (.ref (ad 0 0)), some (.int (iI a)), some (.int (iI b)), some (.int (iI f)), none] [] σ Q = _
  repeat' (first | (simp (config := {maxSteps := 1000000}) (disch := first | assumption | omega | exact Nat.le_of_ble_eq_true rfl | (intro _; first | rfl | simp (disch := decide) only [pz_su_t])) only [sX7_unkey_0, sX7_unkey_0n, sX7_unkey_1, sX7_unkey_2, sX7_unkey_3, sX7_unkey_6, sX7_unkey_6n, sX7_unkey_8, sX7_unkey_8n, sX7_unkey_10, sX7_unkey_10n, sX7_unkey_13, sX7_unkey_23, sX7_unkey_24, sX7_unkey_30, sX7_unkey_40, sX7_unkey_40n, sX7_unkey_42, sX7_unkey_43, sX7_unkey_46, pz_add, pz_mul, pz_neg, pz_sub, pz_lt, pz_le, pz_eq, pz_b0, pz_b1, pz_bb, pz_ix, Int.sub_zero, Int.zero_add, Int.add_zero, Int.mul_zero, mb_qk, mb_qx, if_true, if_false, true_or, or_true, false_or, or_false, and_true, true_and, and_false, false_and, not_true_eq_false, not_false_eq_true, ite_self, List.lookup, List.length_cons, List.length_nil, ite_not, Nat.reduceAdd, Int.reduceEq, Int.reduceLT, Int.reduceLE, pz_n0, pz_n1, pz_n2, pz_n3, pz_n4, pz_n5, pz_n6, pz_n7, pz_n8, pz_n10, pz_n12, pz_n39, pz_n40, pz_n80, pz_n99, pz_n100, pz_n999, pz_nm1, pz_nm999, hdc, pz_gf e0, pc_isCurveFrame, pz_bt c2, pz_gf ec, he1]) | (simp (disch := first | assumption | omega | exact Nat.le_of_ble_eq_true rfl | (intro _; first | rfl | simp (disch := decide) only [pz_su_t])) only [sX7_unkey_27, pz_add, pz_mul, pz_neg, pz_sub, pz_lt, pz_le, pz_eq, pz_b0, pz_b1, pz_bb, pz_ix, Int.sub_zero, Int.zero_add, Int.add_zero, Int.mul_zero, mb_qk, mb_qx, if_true, if_false, true_or, or_true, false_or, or_false, and_true, true_and, and_false, false_and, not_true_eq_false, not_false_eq_true, ite_self, List.lookup, List.length_cons, List.length_nil, ite_not, Nat.reduceAdd, Int.reduceEq, Int.reduceLT, Int.reduceLE, pz_n0, pz_n1, pz_n2, pz_n3, pz_n4, pz_n5, pz_n6, pz_n7, pz_n8, pz_n10, pz_n12, pz_n39, pz_n40, pz_n80, pz_n99, pz_n100, pz_n999, pz_nm1, pz_nm999]; first | split | skip) | split)
  all_goals first | rfl | omega | ((try unfold pz_b); (repeat' split) <;> first | rfl | omega | (simp_all only []; done) | (exfalso; simp_all only [not_true_eq_false, not_false_eq_true]; omega) | skip)
end
